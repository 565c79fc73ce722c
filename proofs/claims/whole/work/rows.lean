section
-- ===== PART A: goes FIRST, ahead of the names: the tables' words, and 'selects' of the private methods out of them =====
/-- a private method of a class that the tables say can be made, by its rows of tables_1 -/
def lw_okq (q : MethodName × Nat) : Prop := (q.1.cls ≠ "java/lang/invoke/MethodHandle" ∧ q.1.cls ≠ "java/lang/invoke/VarHandle") ∧ Cond.instantiable q.1.cls q.2 ∈ tables_1 ∧ Cond.privateMethod q.1 ∈ tables_1 ∧ Cond.instanceMethod q.1 ∈ tables_1
theorem lw_p0 : lw_okq (⟨"HutLoaves", "takeOver", "(I)I"⟩, 4) := ⟨⟨by decide +kernel, by decide +kernel⟩, List.mem_of_getElem? (i := 14) (by decide +kernel), List.mem_of_getElem? (i := 331) (by decide +kernel), List.mem_of_getElem? (i := 332) (by decide +kernel)⟩
theorem lw_p1 : lw_okq (⟨"HutLoaves$History", "dropOldest", "()V"⟩, 2) := ⟨⟨by decide +kernel, by decide +kernel⟩, List.mem_of_getElem? (i := 219) (by decide +kernel), List.mem_of_getElem? (i := 339) (by decide +kernel), List.mem_of_getElem? (i := 340) (by decide +kernel)⟩
theorem lw_p2 : lw_okq (⟨"HutLoaves$Hut", "removeGroup", "(I)V"⟩, 10) := ⟨⟨by decide +kernel, by decide +kernel⟩, List.mem_of_getElem? (i := 22) (by decide +kernel), List.mem_of_getElem? (i := 401) (by decide +kernel), List.mem_of_getElem? (i := 402) (by decide +kernel)⟩
theorem lw_p3 : lw_okq (⟨"HutLoaves$Hut", "unload", "(LHutLoaves$Mule;)V"⟩, 10) := ⟨⟨by decide +kernel, by decide +kernel⟩, List.mem_of_getElem? (i := 22) (by decide +kernel), List.mem_of_getElem? (i := 421) (by decide +kernel), List.mem_of_getElem? (i := 422) (by decide +kernel)⟩
theorem lw_p4 : lw_okq (⟨"HutLoaves$Hut", "feed", "(LHutLoaves$Group;)V"⟩, 10) := ⟨⟨by decide +kernel, by decide +kernel⟩, List.mem_of_getElem? (i := 22) (by decide +kernel), List.mem_of_getElem? (i := 444) (by decide +kernel), List.mem_of_getElem? (i := 445) (by decide +kernel)⟩
theorem lw_p5 : lw_okq (⟨"HutLoaves$Orders", "readOrder", "()Z"⟩, 7) := ⟨⟨by decide +kernel, by decide +kernel⟩, List.mem_of_getElem? (i := 236) (by decide +kernel), List.mem_of_getElem? (i := 619) (by decide +kernel), List.mem_of_getElem? (i := 620) (by decide +kernel)⟩
theorem lw_p6 : lw_okq (⟨"HutLoaves$Orders", "signAt", "(I)I"⟩, 7) := ⟨⟨by decide +kernel, by decide +kernel⟩, List.mem_of_getElem? (i := 236) (by decide +kernel), List.mem_of_getElem? (i := 623) (by decide +kernel), List.mem_of_getElem? (i := 624) (by decide +kernel)⟩
theorem lw_p7 : lw_okq (⟨"HutLoaves$Orders", "readNumber", "(I)Z"⟩, 7) := ⟨⟨by decide +kernel, by decide +kernel⟩, List.mem_of_getElem? (i := 236) (by decide +kernel), List.mem_of_getElem? (i := 630) (by decide +kernel), List.mem_of_getElem? (i := 631) (by decide +kernel)⟩
theorem lw_p8 : lw_okq (⟨"HutLoaves$Orders", "perform", "(LHutLoaves$Hut;)I"⟩, 7) := ⟨⟨by decide +kernel, by decide +kernel⟩, List.mem_of_getElem? (i := 236) (by decide +kernel), List.mem_of_getElem? (i := 635) (by decide +kernel), List.mem_of_getElem? (i := 636) (by decide +kernel)⟩
theorem lw_p9 : lw_okq (⟨"HutLoaves$Orders", "numberAt", "(I)I"⟩, 7) := ⟨⟨by decide +kernel, by decide +kernel⟩, List.mem_of_getElem? (i := 236) (by decide +kernel), List.mem_of_getElem? (i := 639) (by decide +kernel), List.mem_of_getElem? (i := 640) (by decide +kernel)⟩
theorem lw_p10 : lw_okq (⟨"HutLoavesModel", "changes", "()V"⟩, 15) := ⟨⟨by decide +kernel, by decide +kernel⟩, List.mem_of_getElem? (i := 652) (by decide +kernel), List.mem_of_getElem? (i := 713) (by decide +kernel), List.mem_of_getElem? (i := 714) (by decide +kernel)⟩
theorem lw_p11 : lw_okq (⟨"HutLoavesModel", "sets", "(III)V"⟩, 15) := ⟨⟨by decide +kernel, by decide +kernel⟩, List.mem_of_getElem? (i := 652) (by decide +kernel), List.mem_of_getElem? (i := 717) (by decide +kernel), List.mem_of_getElem? (i := 718) (by decide +kernel)⟩
theorem lw_p12 : lw_okq (⟨"HutLoavesModel", "isMule", "(I)Z"⟩, 15) := ⟨⟨by decide +kernel, by decide +kernel⟩, List.mem_of_getElem? (i := 652) (by decide +kernel), List.mem_of_getElem? (i := 725) (by decide +kernel), List.mem_of_getElem? (i := 726) (by decide +kernel)⟩
theorem lw_p13 : lw_okq (⟨"HutLoavesModel", "whyNot", "(II)I"⟩, 15) := ⟨⟨by decide +kernel, by decide +kernel⟩, List.mem_of_getElem? (i := 652) (by decide +kernel), List.mem_of_getElem? (i := 729) (by decide +kernel), List.mem_of_getElem? (i := 730) (by decide +kernel)⟩
theorem lw_p14 : lw_okq (⟨"HutLoavesModel", "of", "(II)I"⟩, 15) := ⟨⟨by decide +kernel, by decide +kernel⟩, List.mem_of_getElem? (i := 652) (by decide +kernel), List.mem_of_getElem? (i := 733) (by decide +kernel), List.mem_of_getElem? (i := 734) (by decide +kernel)⟩
theorem lw_p15 : lw_okq (⟨"HutLoavesModel", "placeOf", "(I)I"⟩, 15) := ⟨⟨by decide +kernel, by decide +kernel⟩, List.mem_of_getElem? (i := 652) (by decide +kernel), List.mem_of_getElem? (i := 754) (by decide +kernel), List.mem_of_getElem? (i := 755) (by decide +kernel)⟩
def lw_privs_1 : List (MethodName × Nat) := [(⟨"HutLoaves", "takeOver", "(I)I"⟩, 4), (⟨"HutLoaves$History", "dropOldest", "()V"⟩, 2), (⟨"HutLoaves$Hut", "removeGroup", "(I)V"⟩, 10), (⟨"HutLoaves$Hut", "unload", "(LHutLoaves$Mule;)V"⟩, 10), (⟨"HutLoaves$Hut", "feed", "(LHutLoaves$Group;)V"⟩, 10), (⟨"HutLoaves$Orders", "readOrder", "()Z"⟩, 7), (⟨"HutLoaves$Orders", "signAt", "(I)I"⟩, 7), (⟨"HutLoaves$Orders", "readNumber", "(I)Z"⟩, 7), (⟨"HutLoaves$Orders", "perform", "(LHutLoaves$Hut;)I"⟩, 7), (⟨"HutLoaves$Orders", "numberAt", "(I)I"⟩, 7), (⟨"HutLoavesModel", "changes", "()V"⟩, 15), (⟨"HutLoavesModel", "sets", "(III)V"⟩, 15), (⟨"HutLoavesModel", "isMule", "(I)Z"⟩, 15), (⟨"HutLoavesModel", "whyNot", "(II)I"⟩, 15), (⟨"HutLoavesModel", "of", "(II)I"⟩, 15), (⟨"HutLoavesModel", "placeOf", "(I)I"⟩, 15)]
theorem lw_r1 : ∀ q ∈ lw_privs_1, lw_okq q := List.forall_mem_cons.mpr ⟨lw_p0, List.forall_mem_cons.mpr ⟨lw_p1, List.forall_mem_cons.mpr ⟨lw_p2, List.forall_mem_cons.mpr ⟨lw_p3, List.forall_mem_cons.mpr ⟨lw_p4, List.forall_mem_cons.mpr ⟨lw_p5, List.forall_mem_cons.mpr ⟨lw_p6, List.forall_mem_cons.mpr ⟨lw_p7, List.forall_mem_cons.mpr ⟨lw_p8, List.forall_mem_cons.mpr ⟨lw_p9, List.forall_mem_cons.mpr ⟨lw_p10, List.forall_mem_cons.mpr ⟨lw_p11, List.forall_mem_cons.mpr ⟨lw_p12, List.forall_mem_cons.mpr ⟨lw_p13, List.forall_mem_cons.mpr ⟨lw_p14, List.forall_mem_cons.mpr ⟨lw_p15, fun _ h => absurd h List.not_mem_nil⟩⟩⟩⟩⟩⟩⟩⟩⟩⟩⟩⟩⟩⟩⟩⟩
theorem lw_p16 : lw_okq (⟨"HutLoavesModel", "ofGroup", "(II)I"⟩, 15) := ⟨⟨by decide +kernel, by decide +kernel⟩, List.mem_of_getElem? (i := 652) (by decide +kernel), List.mem_of_getElem? (i := 758) (by decide +kernel), List.mem_of_getElem? (i := 759) (by decide +kernel)⟩
theorem lw_p17 : lw_okq (⟨"HutLoavesModel", "goes", "(I)V"⟩, 15) := ⟨⟨by decide +kernel, by decide +kernel⟩, List.mem_of_getElem? (i := 652) (by decide +kernel), List.mem_of_getElem? (i := 763) (by decide +kernel), List.mem_of_getElem? (i := 764) (by decide +kernel)⟩
theorem lw_p18 : lw_okq (⟨"HutLoavesModel", "endsFor", "(I)I"⟩, 15) := ⟨⟨by decide +kernel, by decide +kernel⟩, List.mem_of_getElem? (i := 652) (by decide +kernel), List.mem_of_getElem? (i := 771) (by decide +kernel), List.mem_of_getElem? (i := 772) (by decide +kernel)⟩
theorem lw_p19 : lw_okq (⟨"HutLoavesModel", "ends", "()V"⟩, 15) := ⟨⟨by decide +kernel, by decide +kernel⟩, List.mem_of_getElem? (i := 652) (by decide +kernel), List.mem_of_getElem? (i := 775) (by decide +kernel), List.mem_of_getElem? (i := 776) (by decide +kernel)⟩
theorem lw_p20 : lw_okq (⟨"HutLoavesModel", "comesOn", "(I)V"⟩, 15) := ⟨⟨by decide +kernel, by decide +kernel⟩, List.mem_of_getElem? (i := 652) (by decide +kernel), List.mem_of_getElem? (i := 779) (by decide +kernel), List.mem_of_getElem? (i := 780) (by decide +kernel)⟩
theorem lw_p21 : lw_okq (⟨"HutLoavesModel", "stores", "(I)V"⟩, 15) := ⟨⟨by decide +kernel, by decide +kernel⟩, List.mem_of_getElem? (i := 652) (by decide +kernel), List.mem_of_getElem? (i := 783) (by decide +kernel), List.mem_of_getElem? (i := 784) (by decide +kernel)⟩
theorem lw_p22 : lw_okq (⟨"HutLoavesModel", "allLoaves", "()I"⟩, 15) := ⟨⟨by decide +kernel, by decide +kernel⟩, List.mem_of_getElem? (i := 652) (by decide +kernel), List.mem_of_getElem? (i := 787) (by decide +kernel), List.mem_of_getElem? (i := 788) (by decide +kernel)⟩
theorem lw_p23 : lw_okq (⟨"HutLoavesModel", "loavesFrom", "(II)I"⟩, 15) := ⟨⟨by decide +kernel, by decide +kernel⟩, List.mem_of_getElem? (i := 652) (by decide +kernel), List.mem_of_getElem? (i := 791) (by decide +kernel), List.mem_of_getElem? (i := 792) (by decide +kernel)⟩
theorem lw_p24 : lw_okq (⟨"HutLoavesModel", "comesHome", "(I)V"⟩, 15) := ⟨⟨by decide +kernel, by decide +kernel⟩, List.mem_of_getElem? (i := 652) (by decide +kernel), List.mem_of_getElem? (i := 798) (by decide +kernel), List.mem_of_getElem? (i := 799) (by decide +kernel)⟩
theorem lw_p25 : lw_okq (⟨"HutLoavesModel", "isThere", "(II)Z"⟩, 15) := ⟨⟨by decide +kernel, by decide +kernel⟩, List.mem_of_getElem? (i := 652) (by decide +kernel), List.mem_of_getElem? (i := 802) (by decide +kernel), List.mem_of_getElem? (i := 803) (by decide +kernel)⟩
theorem lw_p26 : lw_okq (⟨"HutLoavesModel", "eats", "(I)V"⟩, 15) := ⟨⟨by decide +kernel, by decide +kernel⟩, List.mem_of_getElem? (i := 652) (by decide +kernel), List.mem_of_getElem? (i := 806) (by decide +kernel), List.mem_of_getElem? (i := 807) (by decide +kernel)⟩
theorem lw_p27 : lw_okq (⟨"HutLoavesModel", "takes", "(III)V"⟩, 15) := ⟨⟨by decide +kernel, by decide +kernel⟩, List.mem_of_getElem? (i := 652) (by decide +kernel), List.mem_of_getElem? (i := 813) (by decide +kernel), List.mem_of_getElem? (i := 814) (by decide +kernel)⟩
theorem lw_p28 : lw_okq (⟨"HutLoavesModel", "stale", "()I"⟩, 15) := ⟨⟨by decide +kernel, by decide +kernel⟩, List.mem_of_getElem? (i := 652) (by decide +kernel), List.mem_of_getElem? (i := 817) (by decide +kernel), List.mem_of_getElem? (i := 818) (by decide +kernel)⟩
theorem lw_p29 : lw_okq (⟨"HutLoavesModel", "nextMule", "()I"⟩, 15) := ⟨⟨by decide +kernel, by decide +kernel⟩, List.mem_of_getElem? (i := 652) (by decide +kernel), List.mem_of_getElem? (i := 863) (by decide +kernel), List.mem_of_getElem? (i := 864) (by decide +kernel)⟩
theorem lw_p30 : lw_okq (⟨"HutLoavesModel", "onTheWay", "()I"⟩, 15) := ⟨⟨by decide +kernel, by decide +kernel⟩, List.mem_of_getElem? (i := 652) (by decide +kernel), List.mem_of_getElem? (i := 889) (by decide +kernel), List.mem_of_getElem? (i := 890) (by decide +kernel)⟩
theorem lw_p31 : lw_okq (⟨"HutLoavesModel", "plays", "()Z"⟩, 15) := ⟨⟨by decide +kernel, by decide +kernel⟩, List.mem_of_getElem? (i := 652) (by decide +kernel), List.mem_of_getElem? (i := 909) (by decide +kernel), List.mem_of_getElem? (i := 910) (by decide +kernel)⟩
def lw_privs_2 : List (MethodName × Nat) := [(⟨"HutLoavesModel", "ofGroup", "(II)I"⟩, 15), (⟨"HutLoavesModel", "goes", "(I)V"⟩, 15), (⟨"HutLoavesModel", "endsFor", "(I)I"⟩, 15), (⟨"HutLoavesModel", "ends", "()V"⟩, 15), (⟨"HutLoavesModel", "comesOn", "(I)V"⟩, 15), (⟨"HutLoavesModel", "stores", "(I)V"⟩, 15), (⟨"HutLoavesModel", "allLoaves", "()I"⟩, 15), (⟨"HutLoavesModel", "loavesFrom", "(II)I"⟩, 15), (⟨"HutLoavesModel", "comesHome", "(I)V"⟩, 15), (⟨"HutLoavesModel", "isThere", "(II)Z"⟩, 15), (⟨"HutLoavesModel", "eats", "(I)V"⟩, 15), (⟨"HutLoavesModel", "takes", "(III)V"⟩, 15), (⟨"HutLoavesModel", "stale", "()I"⟩, 15), (⟨"HutLoavesModel", "nextMule", "()I"⟩, 15), (⟨"HutLoavesModel", "onTheWay", "()I"⟩, 15), (⟨"HutLoavesModel", "plays", "()Z"⟩, 15)]
theorem lw_r2 : ∀ q ∈ lw_privs_2, lw_okq q := List.forall_mem_cons.mpr ⟨lw_p16, List.forall_mem_cons.mpr ⟨lw_p17, List.forall_mem_cons.mpr ⟨lw_p18, List.forall_mem_cons.mpr ⟨lw_p19, List.forall_mem_cons.mpr ⟨lw_p20, List.forall_mem_cons.mpr ⟨lw_p21, List.forall_mem_cons.mpr ⟨lw_p22, List.forall_mem_cons.mpr ⟨lw_p23, List.forall_mem_cons.mpr ⟨lw_p24, List.forall_mem_cons.mpr ⟨lw_p25, List.forall_mem_cons.mpr ⟨lw_p26, List.forall_mem_cons.mpr ⟨lw_p27, List.forall_mem_cons.mpr ⟨lw_p28, List.forall_mem_cons.mpr ⟨lw_p29, List.forall_mem_cons.mpr ⟨lw_p30, List.forall_mem_cons.mpr ⟨lw_p31, fun _ h => absurd h List.not_mem_nil⟩⟩⟩⟩⟩⟩⟩⟩⟩⟩⟩⟩⟩⟩⟩⟩
theorem lw_p32 : lw_okq (⟨"HutLoavesModel", "reads", "()Z"⟩, 15) := ⟨⟨by decide +kernel, by decide +kernel⟩, List.mem_of_getElem? (i := 652) (by decide +kernel), List.mem_of_getElem? (i := 913) (by decide +kernel), List.mem_of_getElem? (i := 914) (by decide +kernel)⟩
theorem lw_p33 : lw_okq (⟨"HutLoavesModel", "isAt", "(II)Z"⟩, 15) := ⟨⟨by decide +kernel, by decide +kernel⟩, List.mem_of_getElem? (i := 652) (by decide +kernel), List.mem_of_getElem? (i := 917) (by decide +kernel), List.mem_of_getElem? (i := 918) (by decide +kernel)⟩
theorem lw_p34 : lw_okq (⟨"HutLoavesModel", "numbered", "(I)Z"⟩, 15) := ⟨⟨by decide +kernel, by decide +kernel⟩, List.mem_of_getElem? (i := 652) (by decide +kernel), List.mem_of_getElem? (i := 924) (by decide +kernel), List.mem_of_getElem? (i := 925) (by decide +kernel)⟩
theorem lw_p35 : lw_okq (⟨"HutLoavesModel", "sign", "(I)Z"⟩, 15) := ⟨⟨by decide +kernel, by decide +kernel⟩, List.mem_of_getElem? (i := 652) (by decide +kernel), List.mem_of_getElem? (i := 928) (by decide +kernel), List.mem_of_getElem? (i := 929) (by decide +kernel)⟩
theorem lw_p36 : lw_okq (⟨"HutLoavesModel", "calls", "()I"⟩, 15) := ⟨⟨by decide +kernel, by decide +kernel⟩, List.mem_of_getElem? (i := 652) (by decide +kernel), List.mem_of_getElem? (i := 932) (by decide +kernel), List.mem_of_getElem? (i := 933) (by decide +kernel)⟩
def lw_privs_3 : List (MethodName × Nat) := [(⟨"HutLoavesModel", "reads", "()Z"⟩, 15), (⟨"HutLoavesModel", "isAt", "(II)Z"⟩, 15), (⟨"HutLoavesModel", "numbered", "(I)Z"⟩, 15), (⟨"HutLoavesModel", "sign", "(I)Z"⟩, 15), (⟨"HutLoavesModel", "calls", "()I"⟩, 15)]
theorem lw_r3 : ∀ q ∈ lw_privs_3, lw_okq q := List.forall_mem_cons.mpr ⟨lw_p32, List.forall_mem_cons.mpr ⟨lw_p33, List.forall_mem_cons.mpr ⟨lw_p34, List.forall_mem_cons.mpr ⟨lw_p35, List.forall_mem_cons.mpr ⟨lw_p36, fun _ h => absurd h List.not_mem_nil⟩⟩⟩⟩⟩
def lw_privs : List (MethodName × Nat) := lw_privs_1 ++ (lw_privs_2 ++ (lw_privs_3))
def lw_tbl : List Cond := k2_sels lw_privs ++ tables_1
theorem lw_privs_ok : ∀ q ∈ lw_privs, lw_okq q := by
  show ∀ q ∈ lw_privs_1 ++ (lw_privs_2 ++ (lw_privs_3)), lw_okq q
  exact List.forall_mem_append.mpr ⟨lw_r1, List.forall_mem_append.mpr ⟨lw_r2, lw_r3⟩⟩
/-- the streams that the claim lets the run draw from -/
abbrev lw_cs : List Choice := [Jvm.Choice.named "NaN.bits"]
theorem lw_bits : nanBits ∈ lw_cs := by first | decide | exact List.mem_cons_self | simp [lw_cs, nanBits]
end
section
/-! ===== BEGIN words of one list among another's, by their places ===== -/
theorem goodIn_r {big : List Cond} (ws : List Cond) (ps : List Nat) (hp : ws = ps.filterMap (fun i => big[i]?)) (h : ws.all goodWord = true) : GoodIn big ws := by
  intro w hw
  have h1 := List.all_eq_true.mp h w hw
  rw [hp] at hw
  obtain ⟨i, -, hi⟩ := List.mem_filterMap.mp hw
  have hm : w ∈ big := by first | exact List.mem_of_getElem? hi | exact List.getElem?_mem hi
  exact ⟨hm, good_of_word h1⟩
theorem goodIn_app {big a b : List Cond} (ha : GoodIn big a) (hb : GoodIn big b) : GoodIn big (a ++ b) := fun w h => (List.mem_append.mp h).elim (ha w) (hb w)
theorem goodIn_ca {big a b : List Cond} {c : Cond} (ha : GoodIn big (c :: a)) (hb : GoodIn big b) : GoodIn big (c :: (a ++ b)) := fun w h => (List.mem_cons.mp h).elim (fun e => ha w (List.mem_cons.mpr (Or.inl e))) (fun h => (List.mem_append.mp h).elim (fun h => ha w (List.mem_cons.mpr (Or.inr h))) (hb w))
theorem goodIn_sub {big ws : List Cond} (hm : ∀ w ∈ ws, w ∈ big) (h : ws.all goodWord = true) : GoodIn big ws := fun w hw => ⟨hm w hw, good_of_word (List.all_eq_true.mp h w hw)⟩
/-! ===== END ===== -/

/-! ===== BEGIN printed: names, fields, word lists, decode rows ===== -/
def RX0 : String := "HutLoaves$Group"
def TX0 : u_T := fun k => match k with
  | 0 => ("HutLoaves$Group", "number", "I", false)
  | 1 => ("HutLoaves$Group", "persons", "I", false)
  | 2 => ("HutLoaves$Group", "firstDay", "I", false)
  | 3 => ("HutLoaves$Group", "nights", "I", false)
  | 4 => ("HutLoaves$Group", "paid", "I", false)
  | _ => ("HutLoaves$Group", "hungryDays", "I", false)
def tyX0 : Nat → FieldType := fun k => match k with
  | 0 => .int
  | 1 => .int
  | 2 => .int
  | 3 => .int
  | 4 => .int
  | _ => .int
abbrev wsX00 : List Cond := u_ws RX0 TX0 6
theorem nmX0 : ∀ a, a < 6 → ∀ b, b < 6 → a ≠ b → (TX0 a).2.1 ≠ (TX0 b).2.1 := by decide +kernel
theorem tyX0_ok : ∀ k, k < 6 → parseFieldDescriptor (TX0 k).2.2.1 = some (tyX0 k) := by decide +kernel
abbrev cX0_init : ByteArray := prog_2_method_1_code
def yX0_init : MethodName := ⟨RX0, "<init>", "()V"⟩
abbrev cX0_copyFrom : ByteArray := prog_2_method_2_code
def yX0_copyFrom : MethodName := ⟨RX0, "copyFrom", "(LHutLoaves$Group;)V"⟩
abbrev cX0_begin : ByteArray := prog_2_method_3_code
def yX0_begin : MethodName := ⟨RX0, "begin", "(IIII)V"⟩
abbrev cX0_loavesADay : ByteArray := prog_2_method_4_code
def yX0_loavesADay : MethodName := ⟨RX0, "loavesADay", "()I"⟩
abbrev cX0_isThereOn : ByteArray := prog_2_method_5_code
def yX0_isThereOn : MethodName := ⟨RX0, "isThereOn", "(I)Z"⟩
abbrev cX0_isGoneBy : ByteArray := prog_2_method_6_code
def yX0_isGoneBy : MethodName := ⟨RX0, "isGoneBy", "(I)Z"⟩
abbrev cX0_tell : ByteArray := prog_2_method_7_code
def yX0_tell : MethodName := ⟨RX0, "tell", "(II)I"⟩
def RX1 : String := "HutLoaves$History"
def TX1 : u_T := fun k => match k with
  | 0 => ("HutLoaves$History", "states", "[LHutLoaves$Hut;", true)
  | _ => ("HutLoaves$History", "size", "I", false)
def tyX1 : Nat → FieldType := fun k => match k with
  | 0 => .array (.object "HutLoaves$Hut")
  | _ => .int
abbrev wsX10 : List Cond := u_ws RX1 TX1 2
theorem nmX1 : ∀ a, a < 2 → ∀ b, b < 2 → a ≠ b → (TX1 a).2.1 ≠ (TX1 b).2.1 := by decide +kernel
theorem tyX1_ok : ∀ k, k < 2 → parseFieldDescriptor (TX1 k).2.2.1 = some (tyX1 k) := by decide +kernel
abbrev cX1_init : ByteArray := prog_3_method_1_code
def yX1_init : MethodName := ⟨RX1, "<init>", "()V"⟩
abbrev cX1_keep : ByteArray := prog_3_method_2_code
def yX1_keep : MethodName := ⟨RX1, "keep", "(LHutLoaves$Hut;)V"⟩
abbrev cX1_dropOldest : ByteArray := prog_3_method_3_code
def yX1_dropOldest : MethodName := ⟨RX1, "dropOldest", "()V"⟩
abbrev cX1_takeLatest : ByteArray := prog_3_method_4_code
def yX1_takeLatest : MethodName := ⟨RX1, "takeLatest", "()LHutLoaves$Hut;"⟩
def RX2 : String := "HutLoaves$Hut"
def TX2 : u_T := fun k => match k with
  | 0 => ("HutLoaves$Hut", "mules", "[LHutLoaves$Mule;", true)
  | 1 => ("HutLoaves$Hut", "groups", "[LHutLoaves$Group;", true)
  | 2 => ("HutLoaves$Hut", "shelf", "LHutLoaves$Shelf;", true)
  | 3 => ("HutLoaves$Hut", "ledger", "LHutLoaves$Ledger;", true)
  | 4 => ("HutLoaves$Hut", "settings", "LHutLoaves$Settings;", true)
  | 5 => ("HutLoaves$Hut", "muleCount", "I", false)
  | 6 => ("HutLoaves$Hut", "booked", "I", false)
  | 7 => ("HutLoaves$Hut", "groupsSoFar", "I", false)
  | 8 => ("HutLoaves$Hut", "day", "I", false)
  | _ => ("HutLoaves$Hut", "x", "I", false)
def tyX2 : Nat → FieldType := fun k => match k with
  | 0 => .array (.object "HutLoaves$Mule")
  | 1 => .array (.object "HutLoaves$Group")
  | 2 => .object "HutLoaves$Shelf"
  | 3 => .object "HutLoaves$Ledger"
  | 4 => .object "HutLoaves$Settings"
  | 5 => .int
  | 6 => .int
  | 7 => .int
  | 8 => .int
  | _ => .int
abbrev wsX20 : List Cond := u_ws RX2 TX2 10
theorem nmX2 : ∀ a, a < 10 → ∀ b, b < 10 → a ≠ b → (TX2 a).2.1 ≠ (TX2 b).2.1 := by decide +kernel
theorem tyX2_ok : ∀ k, k < 10 → parseFieldDescriptor (TX2 k).2.2.1 = some (tyX2 k) := by decide +kernel
abbrev cX2_init : ByteArray := prog_4_method_1_code
def yX2_init : MethodName := ⟨RX2, "<init>", "()V"⟩
abbrev cX2_copyFrom : ByteArray := prog_4_method_2_code
def yX2_copyFrom : MethodName := ⟨RX2, "copyFrom", "(LHutLoaves$Hut;)V"⟩
abbrev cX2_muleAt : ByteArray := prog_4_method_3_code
def yX2_muleAt : MethodName := ⟨RX2, "muleAt", "(I)LHutLoaves$Mule;"⟩
abbrev cX2_groupAt : ByteArray := prog_4_method_4_code
def yX2_groupAt : MethodName := ⟨RX2, "groupAt", "(I)LHutLoaves$Group;"⟩
abbrev cX2_placeOfGroup : ByteArray := prog_4_method_5_code
def yX2_placeOfGroup : MethodName := ⟨RX2, "placeOfGroup", "(I)I"⟩
abbrev cX2_addMule : ByteArray := prog_4_method_6_code
def yX2_addMule : MethodName := ⟨RX2, "addMule", "(II)I"⟩
abbrev cX2_whyNot : ByteArray := prog_4_method_7_code
def yX2_whyNot : MethodName := ⟨RX2, "whyNot", "(II)I"⟩
abbrev cX2_sendMule : ByteArray := prog_4_method_8_code
def yX2_sendMule : MethodName := ⟨RX2, "sendMule", "(II)I"⟩
abbrev cX2_restMule : ByteArray := prog_4_method_9_code
def yX2_restMule : MethodName := ⟨RX2, "restMule", "(I)I"⟩
abbrev cX2_payBaker : ByteArray := prog_4_method_10_code
def yX2_payBaker : MethodName := ⟨RX2, "payBaker", "(I)I"⟩
abbrev cX2_bookGroup : ByteArray := prog_4_method_11_code
def yX2_bookGroup : MethodName := ⟨RX2, "bookGroup", "(III)I"⟩
abbrev cX2_callOff : ByteArray := prog_4_method_12_code
def yX2_callOff : MethodName := ⟨RX2, "callOff", "(I)I"⟩
abbrev cX2_removeGroup : ByteArray := prog_4_method_13_code
def yX2_removeGroup : MethodName := ⟨RX2, "removeGroup", "(I)V"⟩
abbrev cX2_endDays : ByteArray := prog_4_method_14_code
def yX2_endDays : MethodName := ⟨RX2, "endDays", "(I)I"⟩
abbrev cX2_endDay : ByteArray := prog_4_method_15_code
def yX2_endDay : MethodName := ⟨RX2, "endDay", "()V"⟩
abbrev cX2_unload : ByteArray := prog_4_method_16_code
def yX2_unload : MethodName := ⟨RX2, "unload", "(LHutLoaves$Mule;)V"⟩
abbrev cX2_feed : ByteArray := prog_4_method_17_code
def yX2_feed : MethodName := ⟨RX2, "feed", "(LHutLoaves$Group;)V"⟩
abbrev cX2_wantedOn : ByteArray := prog_4_method_18_code
def yX2_wantedOn : MethodName := ⟨RX2, "wantedOn", "(I)I"⟩
abbrev cX2_bestMule : ByteArray := prog_4_method_19_code
def yX2_bestMule : MethodName := ⟨RX2, "bestMule", "()I"⟩
abbrev cX2_loavesOnCredit : ByteArray := prog_4_method_20_code
def yX2_loavesOnCredit : MethodName := ⟨RX2, "loavesOnCredit", "()I"⟩
abbrev cX2_loavesOnTheirWayUp : ByteArray := prog_4_method_21_code
def yX2_loavesOnTheirWayUp : MethodName := ⟨RX2, "loavesOnTheirWayUp", "()I"⟩
abbrev cX2_tell : ByteArray := prog_4_method_22_code
def yX2_tell : MethodName := ⟨RX2, "tell", "(I)I"⟩
def RX3 : String := "HutLoaves$Ledger"
def TX3 : u_T := fun k => match k with
  | 0 => ("HutLoaves$Ledger", "money", "I", false)
  | 1 => ("HutLoaves$Ledger", "debt", "I", false)
  | 2 => ("HutLoaves$Ledger", "baked", "I", false)
  | 3 => ("HutLoaves$Ledger", "eaten", "I", false)
  | 4 => ("HutLoaves$Ledger", "thrownAway", "I", false)
  | 5 => ("HutLoaves$Ledger", "lost", "I", false)
  | 6 => ("HutLoaves$Ledger", "snowDays", "I", false)
  | 7 => ("HutLoaves$Ledger", "hungryDays", "I", false)
  | 8 => ("HutLoaves$Ledger", "paidByGroups", "I", false)
  | _ => ("HutLoaves$Ledger", "paidToBaker", "I", false)
def tyX3 : Nat → FieldType := fun k => match k with
  | 0 => .int
  | 1 => .int
  | 2 => .int
  | 3 => .int
  | 4 => .int
  | 5 => .int
  | 6 => .int
  | 7 => .int
  | 8 => .int
  | _ => .int
abbrev wsX30 : List Cond := u_ws RX3 TX3 10
theorem nmX3 : ∀ a, a < 10 → ∀ b, b < 10 → a ≠ b → (TX3 a).2.1 ≠ (TX3 b).2.1 := by decide +kernel
theorem tyX3_ok : ∀ k, k < 10 → parseFieldDescriptor (TX3 k).2.2.1 = some (tyX3 k) := by decide +kernel
abbrev cX3_init : ByteArray := prog_5_method_1_code
def yX3_init : MethodName := ⟨RX3, "<init>", "()V"⟩
abbrev cX3_copyFrom : ByteArray := prog_5_method_2_code
def yX3_copyFrom : MethodName := ⟨RX3, "copyFrom", "(LHutLoaves$Ledger;)V"⟩
abbrev cX3_wasted : ByteArray := prog_5_method_3_code
def yX3_wasted : MethodName := ⟨RX3, "wasted", "()I"⟩
def RX4 : String := "HutLoaves$Mule"
def TX4 : u_T := fun k => match k with
  | 0 => ("HutLoaves$Mule", "load", "I", false)
  | 1 => ("HutLoaves$Mule", "strength", "I", false)
  | 2 => ("HutLoaves$Mule", "place", "I", false)
  | 3 => ("HutLoaves$Mule", "daysToGo", "I", false)
  | 4 => ("HutLoaves$Mule", "brings", "I", false)
  | 5 => ("HutLoaves$Mule", "bakedOn", "I", false)
  | 6 => ("HutLoaves$Mule", "sent", "I", false)
  | 7 => ("HutLoaves$Mule", "brought", "I", false)
  | _ => ("HutLoaves$Mule", "timesLame", "I", false)
def tyX4 : Nat → FieldType := fun k => match k with
  | 0 => .int
  | 1 => .int
  | 2 => .int
  | 3 => .int
  | 4 => .int
  | 5 => .int
  | 6 => .int
  | 7 => .int
  | _ => .int
abbrev wsX40 : List Cond := u_ws RX4 TX4 9
theorem nmX4 : ∀ a, a < 9 → ∀ b, b < 9 → a ≠ b → (TX4 a).2.1 ≠ (TX4 b).2.1 := by decide +kernel
theorem tyX4_ok : ∀ k, k < 9 → parseFieldDescriptor (TX4 k).2.2.1 = some (tyX4 k) := by decide +kernel
abbrev cX4_init : ByteArray := prog_6_method_1_code
def yX4_init : MethodName := ⟨RX4, "<init>", "()V"⟩
abbrev cX4_copyFrom : ByteArray := prog_6_method_2_code
def yX4_copyFrom : MethodName := ⟨RX4, "copyFrom", "(LHutLoaves$Mule;)V"⟩
abbrev cX4_begin : ByteArray := prog_6_method_3_code
def yX4_begin : MethodName := ⟨RX4, "begin", "(II)V"⟩
abbrev cX4_leave : ByteArray := prog_6_method_4_code
def yX4_leave : MethodName := ⟨RX4, "leave", "(II)V"⟩
abbrev cX4_comeOn : ByteArray := prog_6_method_5_code
def yX4_comeOn : MethodName := ⟨RX4, "comeOn", "(Z)Z"⟩
abbrev cX4_unload : ByteArray := prog_6_method_6_code
def yX4_unload : MethodName := ⟨RX4, "unload", "()I"⟩
abbrev cX4_goesAheadOf : ByteArray := prog_6_method_7_code
def yX4_goesAheadOf : MethodName := ⟨RX4, "goesAheadOf", "(LHutLoaves$Mule;)Z"⟩
abbrev cX4_tell : ByteArray := prog_6_method_8_code
def yX4_tell : MethodName := ⟨RX4, "tell", "(I)I"⟩
def RX5 : String := "HutLoaves$Orders"
def TX5 : u_T := fun k => match k with
  | 0 => ("HutLoaves$Orders", "signs", "[C", true)
  | 1 => ("HutLoaves$Orders", "numbers", "[I", true)
  | 2 => ("HutLoaves$Orders", "length", "I", false)
  | 3 => ("HutLoaves$Orders", "start", "I", false)
  | 4 => ("HutLoaves$Orders", "at", "I", false)
  | 5 => ("HutLoaves$Orders", "reason", "I", false)
  | _ => ("HutLoaves$Orders", "cause", "I", false)
def tyX5 : Nat → FieldType := fun k => match k with
  | 0 => .array .char
  | 1 => .array .int
  | 2 => .int
  | 3 => .int
  | 4 => .int
  | 5 => .int
  | _ => .int
abbrev wsX50 : List Cond := u_ws RX5 TX5 7
theorem nmX5 : ∀ a, a < 7 → ∀ b, b < 7 → a ≠ b → (TX5 a).2.1 ≠ (TX5 b).2.1 := by decide +kernel
theorem tyX5_ok : ∀ k, k < 7 → parseFieldDescriptor (TX5 k).2.2.1 = some (tyX5 k) := by decide +kernel
abbrev cX5_init : ByteArray := prog_7_method_1_code
def yX5_init : MethodName := ⟨RX5, "<init>", "()V"⟩
abbrev cX5_append : ByteArray := prog_7_method_2_code
def yX5_append : MethodName := ⟨RX5, "append", "(C)I"⟩
abbrev cX5_empty : ByteArray := prog_7_method_3_code
def yX5_empty : MethodName := ⟨RX5, "empty", "()I"⟩
abbrev cX5_rehearse : ByteArray := prog_7_method_4_code
def yX5_rehearse : MethodName := ⟨RX5, "rehearse", "(LHutLoaves$Hut;)I"⟩
abbrev cX5_perform : ByteArray := prog_7_method_5_code
def yX5_perform : MethodName := ⟨RX5, "perform", "(LHutLoaves$Hut;)I"⟩
abbrev cX5_readOrder : ByteArray := prog_7_method_6_code
def yX5_readOrder : MethodName := ⟨RX5, "readOrder", "()Z"⟩
abbrev cX5_partsOf : ByteArray := prog_7_method_7_code
def yX5_partsOf : MethodName := ⟨RX5, "partsOf", "(I)I"⟩
abbrev cX5_readNumber : ByteArray := prog_7_method_8_code
def yX5_readNumber : MethodName := ⟨RX5, "readNumber", "(I)Z"⟩
abbrev cX5_signAt : ByteArray := prog_7_method_9_code
def yX5_signAt : MethodName := ⟨RX5, "signAt", "(I)I"⟩
abbrev cX5_numberAt : ByteArray := prog_7_method_10_code
def yX5_numberAt : MethodName := ⟨RX5, "numberAt", "(I)I"⟩
def RX6 : String := "HutLoaves$Settings"
def TX6 : u_T := fun k => match k with
  | 0 => ("HutLoaves$Settings", "price", "I", false)
  | 1 => ("HutLoaves$Settings", "credit", "I", false)
  | 2 => ("HutLoaves$Settings", "freshDays", "I", false)
  | _ => ("HutLoaves$Settings", "snow", "I", false)
def tyX6 : Nat → FieldType := fun k => match k with
  | 0 => .int
  | 1 => .int
  | 2 => .int
  | _ => .int
abbrev wsX60 : List Cond := u_ws RX6 TX6 4
theorem nmX6 : ∀ a, a < 4 → ∀ b, b < 4 → a ≠ b → (TX6 a).2.1 ≠ (TX6 b).2.1 := by decide +kernel
theorem tyX6_ok : ∀ k, k < 4 → parseFieldDescriptor (TX6 k).2.2.1 = some (tyX6 k) := by decide +kernel
abbrev cX6_init : ByteArray := prog_8_method_1_code
def yX6_init : MethodName := ⟨RX6, "<init>", "()V"⟩
abbrev cX6_copyFrom : ByteArray := prog_8_method_2_code
def yX6_copyFrom : MethodName := ⟨RX6, "copyFrom", "(LHutLoaves$Settings;)V"⟩
abbrev cX6_tell : ByteArray := prog_8_method_3_code
def yX6_tell : MethodName := ⟨RX6, "tell", "(I)I"⟩
abbrev cX6_change : ByteArray := prog_8_method_4_code
def yX6_change : MethodName := ⟨RX6, "change", "(II)I"⟩
def RX7 : String := "HutLoaves$Shelf"
def TX7 : u_T := fun k => match k with
  | _ => ("HutLoaves$Shelf", "byAge", "[I", true)
def tyX7 : Nat → FieldType := fun k => match k with
  | _ => .array .int
abbrev wsX70 : List Cond := u_ws RX7 TX7 1
theorem nmX7 : ∀ a, a < 1 → ∀ b, b < 1 → a ≠ b → (TX7 a).2.1 ≠ (TX7 b).2.1 := by decide +kernel
theorem tyX7_ok : ∀ k, k < 1 → parseFieldDescriptor (TX7 k).2.2.1 = some (tyX7 k) := by decide +kernel
abbrev cX7_init : ByteArray := prog_9_method_1_code
def yX7_init : MethodName := ⟨RX7, "<init>", "()V"⟩
abbrev cX7_copyFrom : ByteArray := prog_9_method_2_code
def yX7_copyFrom : MethodName := ⟨RX7, "copyFrom", "(LHutLoaves$Shelf;)V"⟩
abbrev cX7_howMany : ByteArray := prog_9_method_3_code
def yX7_howMany : MethodName := ⟨RX7, "howMany", "(II)I"⟩
abbrev cX7_agesTogether : ByteArray := prog_9_method_4_code
def yX7_agesTogether : MethodName := ⟨RX7, "agesTogether", "()I"⟩
abbrev cX7_store : ByteArray := prog_9_method_5_code
def yX7_store : MethodName := ⟨RX7, "store", "(II)V"⟩
abbrev cX7_take : ByteArray := prog_9_method_6_code
def yX7_take : MethodName := ⟨RX7, "take", "(III)I"⟩
abbrev cX7_growOlder : ByteArray := prog_9_method_7_code
def yX7_growOlder : MethodName := ⟨RX7, "growOlder", "()I"⟩
def RX8 : String := "HutLoaves"
def TX8 : u_T := fun k => match k with
  | 0 => ("HutLoaves", "now", "LHutLoaves$Hut;", true)
  | 1 => ("HutLoaves", "trial", "LHutLoaves$Hut;", true)
  | 2 => ("HutLoaves", "history", "LHutLoaves$History;", true)
  | _ => ("HutLoaves", "orders", "LHutLoaves$Orders;", true)
def tyX8 : Nat → FieldType := fun k => match k with
  | 0 => .object "HutLoaves$Hut"
  | 1 => .object "HutLoaves$Hut"
  | 2 => .object "HutLoaves$History"
  | _ => .object "HutLoaves$Orders"
abbrev wsX80 : List Cond := u_ws RX8 TX8 4
theorem nmX8 : ∀ a, a < 4 → ∀ b, b < 4 → a ≠ b → (TX8 a).2.1 ≠ (TX8 b).2.1 := by decide +kernel
theorem tyX8_ok : ∀ k, k < 4 → parseFieldDescriptor (TX8 k).2.2.1 = some (tyX8 k) := by decide +kernel
abbrev cX8_init : ByteArray := prog_1_method_1_code
def yX8_init : MethodName := ⟨RX8, "<init>", "()V"⟩
abbrev cX8_mule : ByteArray := prog_1_method_2_code
def yX8_mule : MethodName := ⟨RX8, "mule", "(II)I"⟩
abbrev cX8_send : ByteArray := prog_1_method_3_code
def yX8_send : MethodName := ⟨RX8, "send", "(II)I"⟩
abbrev cX8_rest : ByteArray := prog_1_method_4_code
def yX8_rest : MethodName := ⟨RX8, "rest", "(I)I"⟩
abbrev cX8_pay : ByteArray := prog_1_method_5_code
def yX8_pay : MethodName := ⟨RX8, "pay", "(I)I"⟩
abbrev cX8_group : ByteArray := prog_1_method_6_code
def yX8_group : MethodName := ⟨RX8, "group", "(III)I"⟩
abbrev cX8_off : ByteArray := prog_1_method_7_code
def yX8_off : MethodName := ⟨RX8, "off", "(I)I"⟩
abbrev cX8_end : ByteArray := prog_1_method_8_code
def yX8_end : MethodName := ⟨RX8, "end", "(I)I"⟩
abbrev cX8_set : ByteArray := prog_1_method_9_code
def yX8_set : MethodName := ⟨RX8, "set", "(II)I"⟩
abbrev cX8_muleOf : ByteArray := prog_1_method_10_code
def yX8_muleOf : MethodName := ⟨RX8, "muleOf", "(II)I"⟩
abbrev cX8_groupOf : ByteArray := prog_1_method_11_code
def yX8_groupOf : MethodName := ⟨RX8, "groupOf", "(II)I"⟩
abbrev cX8_number : ByteArray := prog_1_method_12_code
def yX8_number : MethodName := ⟨RX8, "number", "(I)I"⟩
abbrev cX8_loaves : ByteArray := prog_1_method_13_code
def yX8_loaves : MethodName := ⟨RX8, "loaves", "(I)I"⟩
abbrev cX8_why : ByteArray := prog_1_method_14_code
def yX8_why : MethodName := ⟨RX8, "why", "(II)I"⟩
abbrev cX8_wanted : ByteArray := prog_1_method_15_code
def yX8_wanted : MethodName := ⟨RX8, "wanted", "(I)I"⟩
abbrev cX8_hungry : ByteArray := prog_1_method_16_code
def yX8_hungry : MethodName := ⟨RX8, "hungry", "()I"⟩
abbrev cX8_next : ByteArray := prog_1_method_17_code
def yX8_next : MethodName := ⟨RX8, "next", "(I)I"⟩
abbrev cX8_would : ByteArray := prog_1_method_18_code
def yX8_would : MethodName := ⟨RX8, "would", "(II)I"⟩
abbrev cX8_mean : ByteArray := prog_1_method_19_code
def yX8_mean : MethodName := ⟨RX8, "mean", "()I"⟩
abbrev cX8_count : ByteArray := prog_1_method_20_code
def yX8_count : MethodName := ⟨RX8, "count", "(I)I"⟩
abbrev cX8_undo : ByteArray := prog_1_method_21_code
def yX8_undo : MethodName := ⟨RX8, "undo", "()I"⟩
abbrev cX8_type : ByteArray := prog_1_method_22_code
def yX8_type : MethodName := ⟨RX8, "type", "(I)I"⟩
abbrev cX8_clearText : ByteArray := prog_1_method_23_code
def yX8_clearText : MethodName := ⟨RX8, "clearText", "()I"⟩
abbrev cX8_fault : ByteArray := prog_1_method_24_code
def yX8_fault : MethodName := ⟨RX8, "fault", "(I)I"⟩
abbrev cX8_play : ByteArray := prog_1_method_25_code
def yX8_play : MethodName := ⟨RX8, "play", "()I"⟩
abbrev cX8_takeOver : ByteArray := prog_1_method_26_code
def yX8_takeOver : MethodName := ⟨RX8, "takeOver", "(I)I"⟩
abbrev cX8_isWithin : ByteArray := prog_1_method_27_code
def yX8_isWithin : MethodName := ⟨RX8, "isWithin", "(III)Z"⟩
abbrev cX8_bitsOf : ByteArray := prog_1_method_28_code
def yX8_bitsOf : MethodName := ⟨RX8, "bitsOf", "(F)I"⟩
def RX9 : String := "HutLoavesModel"
def TX9 : u_T := fun k => match k with
  | 0 => ("HutLoavesModel", "s", "[I", true)
  | 1 => ("HutLoavesModel", "past", "[I", true)
  | 2 => ("HutLoavesModel", "held", "[I", true)
  | 3 => ("HutLoavesModel", "tried", "[I", true)
  | 4 => ("HutLoavesModel", "pasts", "I", false)
  | 5 => ("HutLoavesModel", "runs", "Z", false)
  | 6 => ("HutLoavesModel", "text", "[I", true)
  | 7 => ("HutLoavesModel", "typed", "I", false)
  | 8 => ("HutLoavesModel", "spot", "I", false)
  | 9 => ("HutLoavesModel", "from", "I", false)
  | 10 => ("HutLoavesModel", "reason", "I", false)
  | 11 => ("HutLoavesModel", "cause", "I", false)
  | 12 => ("HutLoavesModel", "orders", "I", false)
  | 13 => ("HutLoavesModel", "order", "I", false)
  | _ => ("HutLoavesModel", "numbers", "[I", true)
def tyX9 : Nat → FieldType := fun k => match k with
  | 0 => .array .int
  | 1 => .array .int
  | 2 => .array .int
  | 3 => .array .int
  | 4 => .int
  | 5 => .boolean
  | 6 => .array .int
  | 7 => .int
  | 8 => .int
  | 9 => .int
  | 10 => .int
  | 11 => .int
  | 12 => .int
  | 13 => .int
  | _ => .array .int
abbrev wsX90 : List Cond := u_ws RX9 TX9 15
theorem nmX9 : ∀ a, a < 15 → ∀ b, b < 15 → a ≠ b → (TX9 a).2.1 ≠ (TX9 b).2.1 := by decide +kernel
theorem tyX9_ok : ∀ k, k < 15 → parseFieldDescriptor (TX9 k).2.2.1 = some (tyX9 k) := by decide +kernel
abbrev cX9_init : ByteArray := prog_11_method_1_code
def yX9_init : MethodName := ⟨RX9, "<init>", "()V"⟩
abbrev cX9_in : ByteArray := prog_11_method_3_code
def yX9_in : MethodName := ⟨RX9, "in", "(III)Z"⟩
abbrev cX9_lesser : ByteArray := prog_11_method_4_code
def yX9_lesser : MethodName := ⟨RX9, "lesser", "(II)I"⟩
abbrev cX9_copies : ByteArray := prog_11_method_5_code
def yX9_copies : MethodName := ⟨RX9, "copies", "([I[I)V"⟩
abbrev cX9_changes : ByteArray := prog_11_method_6_code
def yX9_changes : MethodName := ⟨RX9, "changes", "()V"⟩
abbrev cX9_isMule : ByteArray := prog_11_method_7_code
def yX9_isMule : MethodName := ⟨RX9, "isMule", "(I)Z"⟩
abbrev cX9_of : ByteArray := prog_11_method_8_code
def yX9_of : MethodName := ⟨RX9, "of", "(II)I"⟩
abbrev cX9_sets : ByteArray := prog_11_method_9_code
def yX9_sets : MethodName := ⟨RX9, "sets", "(III)V"⟩
abbrev cX9_ofGroup : ByteArray := prog_11_method_10_code
def yX9_ofGroup : MethodName := ⟨RX9, "ofGroup", "(II)I"⟩
abbrev cX9_placeOf : ByteArray := prog_11_method_11_code
def yX9_placeOf : MethodName := ⟨RX9, "placeOf", "(I)I"⟩
abbrev cX9_loavesFrom : ByteArray := prog_11_method_12_code
def yX9_loavesFrom : MethodName := ⟨RX9, "loavesFrom", "(II)I"⟩
abbrev cX9_allLoaves : ByteArray := prog_11_method_13_code
def yX9_allLoaves : MethodName := ⟨RX9, "allLoaves", "()I"⟩
abbrev cX9_stale : ByteArray := prog_11_method_14_code
def yX9_stale : MethodName := ⟨RX9, "stale", "()I"⟩
abbrev cX9_stores : ByteArray := prog_11_method_15_code
def yX9_stores : MethodName := ⟨RX9, "stores", "(I)V"⟩
abbrev cX9_comesHome : ByteArray := prog_11_method_16_code
def yX9_comesHome : MethodName := ⟨RX9, "comesHome", "(I)V"⟩
abbrev cX9_comesOn : ByteArray := prog_11_method_17_code
def yX9_comesOn : MethodName := ⟨RX9, "comesOn", "(I)V"⟩
abbrev cX9_takes : ByteArray := prog_11_method_18_code
def yX9_takes : MethodName := ⟨RX9, "takes", "(III)V"⟩
abbrev cX9_isThere : ByteArray := prog_11_method_19_code
def yX9_isThere : MethodName := ⟨RX9, "isThere", "(II)Z"⟩
abbrev cX9_wants : ByteArray := prog_11_method_20_code
def yX9_wants : MethodName := ⟨RX9, "wants", "(I)I"⟩
abbrev cX9_eats : ByteArray := prog_11_method_21_code
def yX9_eats : MethodName := ⟨RX9, "eats", "(I)V"⟩
abbrev cX9_goes : ByteArray := prog_11_method_22_code
def yX9_goes : MethodName := ⟨RX9, "goes", "(I)V"⟩
abbrev cX9_ends : ByteArray := prog_11_method_23_code
def yX9_ends : MethodName := ⟨RX9, "ends", "()V"⟩
abbrev cX9_endsFor : ByteArray := prog_11_method_24_code
def yX9_endsFor : MethodName := ⟨RX9, "endsFor", "(I)I"⟩
abbrev cX9_mule : ByteArray := prog_11_method_25_code
def yX9_mule : MethodName := ⟨RX9, "mule", "(II)I"⟩
abbrev cX9_whyNot : ByteArray := prog_11_method_26_code
def yX9_whyNot : MethodName := ⟨RX9, "whyNot", "(II)I"⟩
abbrev cX9_send : ByteArray := prog_11_method_27_code
def yX9_send : MethodName := ⟨RX9, "send", "(II)I"⟩
abbrev cX9_rest : ByteArray := prog_11_method_28_code
def yX9_rest : MethodName := ⟨RX9, "rest", "(I)I"⟩
abbrev cX9_pay : ByteArray := prog_11_method_29_code
def yX9_pay : MethodName := ⟨RX9, "pay", "(I)I"⟩
abbrev cX9_group : ByteArray := prog_11_method_30_code
def yX9_group : MethodName := ⟨RX9, "group", "(III)I"⟩
abbrev cX9_off : ByteArray := prog_11_method_31_code
def yX9_off : MethodName := ⟨RX9, "off", "(I)I"⟩
abbrev cX9_end : ByteArray := prog_11_method_32_code
def yX9_end : MethodName := ⟨RX9, "end", "(I)I"⟩
abbrev cX9_maySet : ByteArray := prog_11_method_33_code
def yX9_maySet : MethodName := ⟨RX9, "maySet", "(II)Z"⟩
abbrev cX9_set : ByteArray := prog_11_method_34_code
def yX9_set : MethodName := ⟨RX9, "set", "(II)I"⟩
abbrev cX9_muleOf : ByteArray := prog_11_method_35_code
def yX9_muleOf : MethodName := ⟨RX9, "muleOf", "(II)I"⟩
abbrev cX9_groupOf : ByteArray := prog_11_method_36_code
def yX9_groupOf : MethodName := ⟨RX9, "groupOf", "(II)I"⟩
abbrev cX9_number : ByteArray := prog_11_method_37_code
def yX9_number : MethodName := ⟨RX9, "number", "(I)I"⟩
abbrev cX9_loaves : ByteArray := prog_11_method_38_code
def yX9_loaves : MethodName := ⟨RX9, "loaves", "(I)I"⟩
abbrev cX9_why : ByteArray := prog_11_method_39_code
def yX9_why : MethodName := ⟨RX9, "why", "(II)I"⟩
abbrev cX9_wanted : ByteArray := prog_11_method_40_code
def yX9_wanted : MethodName := ⟨RX9, "wanted", "(I)I"⟩
abbrev cX9_hungry : ByteArray := prog_11_method_41_code
def yX9_hungry : MethodName := ⟨RX9, "hungry", "()I"⟩
abbrev cX9_nextMule : ByteArray := prog_11_method_42_code
def yX9_nextMule : MethodName := ⟨RX9, "nextMule", "()I"⟩
abbrev cX9_next : ByteArray := prog_11_method_43_code
def yX9_next : MethodName := ⟨RX9, "next", "(I)I"⟩
abbrev cX9_would : ByteArray := prog_11_method_44_code
def yX9_would : MethodName := ⟨RX9, "would", "(II)I"⟩
abbrev cX9_mean : ByteArray := prog_11_method_45_code
def yX9_mean : MethodName := ⟨RX9, "mean", "()I"⟩
abbrev cX9_onTheWay : ByteArray := prog_11_method_46_code
def yX9_onTheWay : MethodName := ⟨RX9, "onTheWay", "()I"⟩
abbrev cX9_count : ByteArray := prog_11_method_47_code
def yX9_count : MethodName := ⟨RX9, "count", "(I)I"⟩
abbrev cX9_undo : ByteArray := prog_11_method_48_code
def yX9_undo : MethodName := ⟨RX9, "undo", "()I"⟩
abbrev cX9_type : ByteArray := prog_11_method_49_code
def yX9_type : MethodName := ⟨RX9, "type", "(I)I"⟩
abbrev cX9_clearText : ByteArray := prog_11_method_50_code
def yX9_clearText : MethodName := ⟨RX9, "clearText", "()I"⟩
abbrev cX9_isAt : ByteArray := prog_11_method_51_code
def yX9_isAt : MethodName := ⟨RX9, "isAt", "(II)Z"⟩
abbrev cX9_sign : ByteArray := prog_11_method_52_code
def yX9_sign : MethodName := ⟨RX9, "sign", "(I)Z"⟩
abbrev cX9_numbered : ByteArray := prog_11_method_53_code
def yX9_numbered : MethodName := ⟨RX9, "numbered", "(I)Z"⟩
abbrev cX9_numbersOf : ByteArray := prog_11_method_54_code
def yX9_numbersOf : MethodName := ⟨RX9, "numbersOf", "(I)I"⟩
abbrev cX9_reads : ByteArray := prog_11_method_55_code
def yX9_reads : MethodName := ⟨RX9, "reads", "()Z"⟩
abbrev cX9_calls : ByteArray := prog_11_method_56_code
def yX9_calls : MethodName := ⟨RX9, "calls", "()I"⟩
abbrev cX9_plays : ByteArray := prog_11_method_57_code
def yX9_plays : MethodName := ⟨RX9, "plays", "()Z"⟩
abbrev cX9_fault : ByteArray := prog_11_method_58_code
def yX9_fault : MethodName := ⟨RX9, "fault", "(I)I"⟩
abbrev cX9_play : ByteArray := prog_11_method_59_code
def yX9_play : MethodName := ⟨RX9, "play", "()I"⟩
def RJxf58ca : String := "java/lang/Float"
def TJxf58ca : u_T := fun k => match k with
  | _ => ("", "", "", false)
def tyJxf58ca : Nat → FieldType := fun k => match k with
  | _ => .int
abbrev wsJxf58ca0 : List Cond := u_ws RJxf58ca TJxf58ca 0
theorem nmJxf58ca : ∀ a, a < 0 → ∀ b, b < 0 → a ≠ b → (TJxf58ca a).2.1 ≠ (TJxf58ca b).2.1 := by decide +kernel
theorem tyJxf58ca_ok : ∀ k, k < 0 → parseFieldDescriptor (TJxf58ca k).2.2.1 = some (tyJxf58ca k) := by decide +kernel
abbrev cJxf58ca_isNaN_12338 : ByteArray := prog_12_method_6_code
def yJxf58ca_isNaN_12338 : MethodName := ⟨RJxf58ca, "isNaN", "(F)Z"⟩
abbrev cJxf58ca_floatToIntBits_5c35a : ByteArray := prog_12_method_24_code
def yJxf58ca_floatToIntBits_5c35a : MethodName := ⟨RJxf58ca, "floatToIntBits", "(F)I"⟩
def RJ9 : String := "java/lang/Math"
def TJ9 : u_T := fun k => match k with
  | _ => ("", "", "", false)
def tyJ9 : Nat → FieldType := fun k => match k with
  | _ => .int
abbrev wsJ90 : List Cond := u_ws RJ9 TJ9 0
theorem nmJ9 : ∀ a, a < 0 → ∀ b, b < 0 → a ≠ b → (TJ9 a).2.1 ≠ (TJ9 b).2.1 := by decide +kernel
theorem tyJ9_ok : ∀ k, k < 0 → parseFieldDescriptor (TJ9 k).2.2.1 = some (tyJ9 k) := by decide +kernel
abbrev cJ9_min_7cf53 : ByteArray := prog_13_method_69_code
def yJ9_min_7cf53 : MethodName := ⟨RJ9, "min", "(II)I"⟩
def RL : String := "HutLoavesLaw"
abbrev cL_law : ByteArray := code
def yL_law : MethodName := ⟨RL, "law", "([I)Z"⟩
abbrev vwCl : List vw_C := [(RX0, TX0, 6), (RX1, TX1, 2), (RX2, TX2, 10), (RX3, TX3, 10), (RX4, TX4, 9), (RX5, TX5, 7), (RX6, TX6, 4), (RX7, TX7, 1), (RX8, TX8, 4), (RX9, TX9, 15)]
end
section
theorem dX0_init_0 : decode cX0_init 0 = .ok (.aload_n 0, 1) := by decide +kernel
theorem dX0_init_1 : decode cX0_init 1 = .ok (.invokespecial 3, 3) := by decide +kernel
theorem dX0_init_4 : decode cX0_init 4 = .ok (.return_, 1) := by decide +kernel
theorem dX0_copyFrom_0 : decode cX0_copyFrom 0 = .ok (.aload_n 0, 1) := by decide +kernel
theorem dX0_copyFrom_1 : decode cX0_copyFrom 1 = .ok (.aload_n 1, 1) := by decide +kernel
theorem dX0_copyFrom_2 : decode cX0_copyFrom 2 = .ok (.getfield 9, 3) := by decide +kernel
theorem dX0_copyFrom_5 : decode cX0_copyFrom 5 = .ok (.putfield 9, 3) := by decide +kernel
theorem dX0_copyFrom_8 : decode cX0_copyFrom 8 = .ok (.aload_n 0, 1) := by decide +kernel
theorem dX0_copyFrom_9 : decode cX0_copyFrom 9 = .ok (.aload_n 1, 1) := by decide +kernel
theorem dX0_copyFrom_10 : decode cX0_copyFrom 10 = .ok (.getfield 15, 3) := by decide +kernel
theorem dX0_copyFrom_13 : decode cX0_copyFrom 13 = .ok (.putfield 15, 3) := by decide +kernel
theorem dX0_copyFrom_16 : decode cX0_copyFrom 16 = .ok (.aload_n 0, 1) := by decide +kernel
theorem dX0_copyFrom_17 : decode cX0_copyFrom 17 = .ok (.aload_n 1, 1) := by decide +kernel
theorem dX0_copyFrom_18 : decode cX0_copyFrom 18 = .ok (.getfield 18, 3) := by decide +kernel
theorem dX0_copyFrom_21 : decode cX0_copyFrom 21 = .ok (.putfield 18, 3) := by decide +kernel
theorem dX0_copyFrom_24 : decode cX0_copyFrom 24 = .ok (.aload_n 0, 1) := by decide +kernel
theorem dX0_copyFrom_25 : decode cX0_copyFrom 25 = .ok (.aload_n 1, 1) := by decide +kernel
theorem dX0_copyFrom_26 : decode cX0_copyFrom 26 = .ok (.getfield 21, 3) := by decide +kernel
theorem dX0_copyFrom_29 : decode cX0_copyFrom 29 = .ok (.putfield 21, 3) := by decide +kernel
theorem dX0_copyFrom_32 : decode cX0_copyFrom 32 = .ok (.aload_n 0, 1) := by decide +kernel
theorem dX0_copyFrom_33 : decode cX0_copyFrom 33 = .ok (.aload_n 1, 1) := by decide +kernel
theorem dX0_copyFrom_34 : decode cX0_copyFrom 34 = .ok (.getfield 24, 3) := by decide +kernel
theorem dX0_copyFrom_37 : decode cX0_copyFrom 37 = .ok (.putfield 24, 3) := by decide +kernel
theorem dX0_copyFrom_40 : decode cX0_copyFrom 40 = .ok (.aload_n 0, 1) := by decide +kernel
theorem dX0_copyFrom_41 : decode cX0_copyFrom 41 = .ok (.aload_n 1, 1) := by decide +kernel
theorem dX0_copyFrom_42 : decode cX0_copyFrom 42 = .ok (.getfield 27, 3) := by decide +kernel
theorem dX0_copyFrom_45 : decode cX0_copyFrom 45 = .ok (.putfield 27, 3) := by decide +kernel
theorem dX0_copyFrom_48 : decode cX0_copyFrom 48 = .ok (.return_, 1) := by decide +kernel
theorem dX0_begin_0 : decode cX0_begin 0 = .ok (.aload_n 0, 1) := by decide +kernel
theorem dX0_begin_1 : decode cX0_begin 1 = .ok (.iload_n 1, 1) := by decide +kernel
theorem dX0_begin_2 : decode cX0_begin 2 = .ok (.putfield 9, 3) := by decide +kernel
theorem dX0_begin_5 : decode cX0_begin 5 = .ok (.aload_n 0, 1) := by decide +kernel
theorem dX0_begin_6 : decode cX0_begin 6 = .ok (.iload_n 2, 1) := by decide +kernel
theorem dX0_begin_7 : decode cX0_begin 7 = .ok (.putfield 15, 3) := by decide +kernel
theorem dX0_begin_10 : decode cX0_begin 10 = .ok (.aload_n 0, 1) := by decide +kernel
theorem dX0_begin_11 : decode cX0_begin 11 = .ok (.iload_n 3, 1) := by decide +kernel
theorem dX0_begin_12 : decode cX0_begin 12 = .ok (.putfield 18, 3) := by decide +kernel
theorem dX0_begin_15 : decode cX0_begin 15 = .ok (.aload_n 0, 1) := by decide +kernel
theorem dX0_begin_16 : decode cX0_begin 16 = .ok (.iload 4, 2) := by decide +kernel
theorem dX0_begin_18 : decode cX0_begin 18 = .ok (.putfield 21, 3) := by decide +kernel
theorem dX0_begin_21 : decode cX0_begin 21 = .ok (.aload_n 0, 1) := by decide +kernel
theorem dX0_begin_22 : decode cX0_begin 22 = .ok (.iconst 0, 1) := by decide +kernel
theorem dX0_begin_23 : decode cX0_begin 23 = .ok (.putfield 24, 3) := by decide +kernel
theorem dX0_begin_26 : decode cX0_begin 26 = .ok (.aload_n 0, 1) := by decide +kernel
theorem dX0_begin_27 : decode cX0_begin 27 = .ok (.iconst 0, 1) := by decide +kernel
theorem dX0_begin_28 : decode cX0_begin 28 = .ok (.putfield 27, 3) := by decide +kernel
theorem dX0_begin_31 : decode cX0_begin 31 = .ok (.return_, 1) := by decide +kernel
theorem dX0_loavesADay_0 : decode cX0_loavesADay 0 = .ok (.aload_n 0, 1) := by decide +kernel
theorem dX0_loavesADay_1 : decode cX0_loavesADay 1 = .ok (.getfield 15, 3) := by decide +kernel
theorem dX0_loavesADay_4 : decode cX0_loavesADay 4 = .ok (.iconst 1, 1) := by decide +kernel
theorem dX0_loavesADay_5 : decode cX0_loavesADay 5 = .ok (.iadd, 1) := by decide +kernel
theorem dX0_loavesADay_6 : decode cX0_loavesADay 6 = .ok (.iconst 2, 1) := by decide +kernel
theorem dX0_loavesADay_7 : decode cX0_loavesADay 7 = .ok (.idiv, 1) := by decide +kernel
theorem dX0_loavesADay_8 : decode cX0_loavesADay 8 = .ok (.ireturn, 1) := by decide +kernel
theorem dX0_isThereOn_0 : decode cX0_isThereOn 0 = .ok (.iload_n 1, 1) := by decide +kernel
theorem dX0_isThereOn_1 : decode cX0_isThereOn 1 = .ok (.aload_n 0, 1) := by decide +kernel
theorem dX0_isThereOn_2 : decode cX0_isThereOn 2 = .ok (.getfield 18, 3) := by decide +kernel
theorem dX0_isThereOn_5 : decode cX0_isThereOn 5 = .ok (.if_icmp .lt 20, 3) := by decide +kernel
theorem dX0_isThereOn_8 : decode cX0_isThereOn 8 = .ok (.iload_n 1, 1) := by decide +kernel
theorem dX0_isThereOn_9 : decode cX0_isThereOn 9 = .ok (.aload_n 0, 1) := by decide +kernel
theorem dX0_isThereOn_10 : decode cX0_isThereOn 10 = .ok (.getfield 18, 3) := by decide +kernel
theorem dX0_isThereOn_13 : decode cX0_isThereOn 13 = .ok (.aload_n 0, 1) := by decide +kernel
theorem dX0_isThereOn_14 : decode cX0_isThereOn 14 = .ok (.getfield 21, 3) := by decide +kernel
theorem dX0_isThereOn_17 : decode cX0_isThereOn 17 = .ok (.iadd, 1) := by decide +kernel
theorem dX0_isThereOn_18 : decode cX0_isThereOn 18 = .ok (.if_icmp .ge 7, 3) := by decide +kernel
theorem dX0_isThereOn_21 : decode cX0_isThereOn 21 = .ok (.iconst 1, 1) := by decide +kernel
theorem dX0_isThereOn_22 : decode cX0_isThereOn 22 = .ok (.goto 4, 3) := by decide +kernel
theorem dX0_isThereOn_25 : decode cX0_isThereOn 25 = .ok (.iconst 0, 1) := by decide +kernel
theorem dX0_isThereOn_26 : decode cX0_isThereOn 26 = .ok (.ireturn, 1) := by decide +kernel
theorem dX0_isGoneBy_0 : decode cX0_isGoneBy 0 = .ok (.iload_n 1, 1) := by decide +kernel
theorem dX0_isGoneBy_1 : decode cX0_isGoneBy 1 = .ok (.aload_n 0, 1) := by decide +kernel
theorem dX0_isGoneBy_2 : decode cX0_isGoneBy 2 = .ok (.getfield 18, 3) := by decide +kernel
theorem dX0_isGoneBy_5 : decode cX0_isGoneBy 5 = .ok (.aload_n 0, 1) := by decide +kernel
theorem dX0_isGoneBy_6 : decode cX0_isGoneBy 6 = .ok (.getfield 21, 3) := by decide +kernel
theorem dX0_isGoneBy_9 : decode cX0_isGoneBy 9 = .ok (.iadd, 1) := by decide +kernel
theorem dX0_isGoneBy_10 : decode cX0_isGoneBy 10 = .ok (.if_icmp .lt 7, 3) := by decide +kernel
theorem dX0_isGoneBy_13 : decode cX0_isGoneBy 13 = .ok (.iconst 1, 1) := by decide +kernel
theorem dX0_isGoneBy_14 : decode cX0_isGoneBy 14 = .ok (.goto 4, 3) := by decide +kernel
theorem dX0_isGoneBy_17 : decode cX0_isGoneBy 17 = .ok (.iconst 0, 1) := by decide +kernel
theorem dX0_isGoneBy_18 : decode cX0_isGoneBy 18 = .ok (.ireturn, 1) := by decide +kernel
theorem dX0_tell_0 : decode cX0_tell 0 = .ok (.iload_n 1, 1) := by decide +kernel
theorem dX0_tell_1 : decode cX0_tell 1 = .ok (.tableswitch 87 0 6 #[43, 48, 53, 58, 63, 77, 82], 43) := by decide +kernel
theorem dX0_tell_44 : decode cX0_tell 44 = .ok (.aload_n 0, 1) := by decide +kernel
theorem dX0_tell_45 : decode cX0_tell 45 = .ok (.getfield 15, 3) := by decide +kernel
theorem dX0_tell_48 : decode cX0_tell 48 = .ok (.ireturn, 1) := by decide +kernel
theorem dX0_tell_49 : decode cX0_tell 49 = .ok (.aload_n 0, 1) := by decide +kernel
theorem dX0_tell_50 : decode cX0_tell 50 = .ok (.getfield 18, 3) := by decide +kernel
theorem dX0_tell_53 : decode cX0_tell 53 = .ok (.ireturn, 1) := by decide +kernel
theorem dX0_tell_54 : decode cX0_tell 54 = .ok (.aload_n 0, 1) := by decide +kernel
theorem dX0_tell_55 : decode cX0_tell 55 = .ok (.getfield 21, 3) := by decide +kernel
theorem dX0_tell_58 : decode cX0_tell 58 = .ok (.ireturn, 1) := by decide +kernel
theorem dX0_tell_59 : decode cX0_tell 59 = .ok (.aload_n 0, 1) := by decide +kernel
theorem dX0_tell_60 : decode cX0_tell 60 = .ok (.invokevirtual 30, 3) := by decide +kernel
theorem dX0_tell_63 : decode cX0_tell 63 = .ok (.ireturn, 1) := by decide +kernel
theorem dX0_tell_64 : decode cX0_tell 64 = .ok (.aload_n 0, 1) := by decide +kernel
theorem dX0_tell_65 : decode cX0_tell 65 = .ok (.iload_n 2, 1) := by decide +kernel
theorem dX0_tell_66 : decode cX0_tell 66 = .ok (.invokevirtual 34, 3) := by decide +kernel
theorem dX0_tell_69 : decode cX0_tell 69 = .ok (.ifCond .eq 7, 3) := by decide +kernel
theorem dX0_tell_72 : decode cX0_tell 72 = .ok (.iconst 1, 1) := by decide +kernel
theorem dX0_tell_73 : decode cX0_tell 73 = .ok (.goto 4, 3) := by decide +kernel
theorem dX0_tell_76 : decode cX0_tell 76 = .ok (.iconst 0, 1) := by decide +kernel
theorem dX0_tell_77 : decode cX0_tell 77 = .ok (.ireturn, 1) := by decide +kernel
theorem dX0_tell_78 : decode cX0_tell 78 = .ok (.aload_n 0, 1) := by decide +kernel
theorem dX0_tell_79 : decode cX0_tell 79 = .ok (.getfield 24, 3) := by decide +kernel
theorem dX0_tell_82 : decode cX0_tell 82 = .ok (.ireturn, 1) := by decide +kernel
theorem dX0_tell_83 : decode cX0_tell 83 = .ok (.aload_n 0, 1) := by decide +kernel
theorem dX0_tell_84 : decode cX0_tell 84 = .ok (.getfield 27, 3) := by decide +kernel
theorem dX0_tell_87 : decode cX0_tell 87 = .ok (.ireturn, 1) := by decide +kernel
theorem dX0_tell_88 : decode cX0_tell 88 = .ok (.ldc 38, 2) := by decide +kernel
theorem dX0_tell_90 : decode cX0_tell 90 = .ok (.ireturn, 1) := by decide +kernel
theorem dX1_init_0 : decode cX1_init 0 = .ok (.aload_n 0, 1) := by decide +kernel
theorem dX1_init_1 : decode cX1_init 1 = .ok (.invokespecial 3, 3) := by decide +kernel
theorem dX1_init_4 : decode cX1_init 4 = .ok (.aload_n 0, 1) := by decide +kernel
theorem dX1_init_5 : decode cX1_init 5 = .ok (.iconst 4, 1) := by decide +kernel
theorem dX1_init_6 : decode cX1_init 6 = .ok (.anewarray 9, 3) := by decide +kernel
theorem dX1_init_9 : decode cX1_init 9 = .ok (.putfield 11, 3) := by decide +kernel
theorem dX1_init_12 : decode cX1_init 12 = .ok (.iconst 0, 1) := by decide +kernel
theorem dX1_init_13 : decode cX1_init 13 = .ok (.istore_n 1, 1) := by decide +kernel
theorem dX1_init_14 : decode cX1_init 14 = .ok (.iload_n 1, 1) := by decide +kernel
theorem dX1_init_15 : decode cX1_init 15 = .ok (.aload_n 0, 1) := by decide +kernel
theorem dX1_init_16 : decode cX1_init 16 = .ok (.getfield 11, 3) := by decide +kernel
theorem dX1_init_19 : decode cX1_init 19 = .ok (.arraylength, 1) := by decide +kernel
theorem dX1_init_20 : decode cX1_init 20 = .ok (.if_icmp .ge 22, 3) := by decide +kernel
theorem dX1_init_23 : decode cX1_init 23 = .ok (.aload_n 0, 1) := by decide +kernel
theorem dX1_init_24 : decode cX1_init 24 = .ok (.getfield 11, 3) := by decide +kernel
theorem dX1_init_27 : decode cX1_init 27 = .ok (.iload_n 1, 1) := by decide +kernel
theorem dX1_init_28 : decode cX1_init 28 = .ok (.new 9, 3) := by decide +kernel
theorem dX1_init_31 : decode cX1_init 31 = .ok (.dup, 1) := by decide +kernel
theorem dX1_init_32 : decode cX1_init 32 = .ok (.invokespecial 17, 3) := by decide +kernel
theorem dX1_init_35 : decode cX1_init 35 = .ok (.aastore, 1) := by decide +kernel
theorem dX1_init_36 : decode cX1_init 36 = .ok (.iinc 1 1, 3) := by decide +kernel
theorem dX1_init_39 : decode cX1_init 39 = .ok (.goto (-25), 3) := by decide +kernel
theorem dX1_init_42 : decode cX1_init 42 = .ok (.return_, 1) := by decide +kernel
theorem dX1_keep_0 : decode cX1_keep 0 = .ok (.aload_n 0, 1) := by decide +kernel
theorem dX1_keep_1 : decode cX1_keep 1 = .ok (.getfield 18, 3) := by decide +kernel
theorem dX1_keep_4 : decode cX1_keep 4 = .ok (.aload_n 0, 1) := by decide +kernel
theorem dX1_keep_5 : decode cX1_keep 5 = .ok (.getfield 11, 3) := by decide +kernel
theorem dX1_keep_8 : decode cX1_keep 8 = .ok (.arraylength, 1) := by decide +kernel
theorem dX1_keep_9 : decode cX1_keep 9 = .ok (.if_icmp .lt 7, 3) := by decide +kernel
theorem dX1_keep_12 : decode cX1_keep 12 = .ok (.aload_n 0, 1) := by decide +kernel
theorem dX1_keep_13 : decode cX1_keep 13 = .ok (.invokevirtual 22, 3) := by decide +kernel
theorem dX1_keep_16 : decode cX1_keep 16 = .ok (.aload_n 0, 1) := by decide +kernel
theorem dX1_keep_17 : decode cX1_keep 17 = .ok (.getfield 18, 3) := by decide +kernel
theorem dX1_keep_20 : decode cX1_keep 20 = .ok (.ifCond .lt 15, 3) := by decide +kernel
theorem dX1_keep_23 : decode cX1_keep 23 = .ok (.aload_n 0, 1) := by decide +kernel
theorem dX1_keep_24 : decode cX1_keep 24 = .ok (.getfield 18, 3) := by decide +kernel
theorem dX1_keep_27 : decode cX1_keep 27 = .ok (.aload_n 0, 1) := by decide +kernel
theorem dX1_keep_28 : decode cX1_keep 28 = .ok (.getfield 11, 3) := by decide +kernel
theorem dX1_keep_31 : decode cX1_keep 31 = .ok (.arraylength, 1) := by decide +kernel
theorem dX1_keep_32 : decode cX1_keep 32 = .ok (.if_icmp .lt 4, 3) := by decide +kernel
theorem dX1_keep_35 : decode cX1_keep 35 = .ok (.return_, 1) := by decide +kernel
theorem dX1_keep_36 : decode cX1_keep 36 = .ok (.aload_n 0, 1) := by decide +kernel
theorem dX1_keep_37 : decode cX1_keep 37 = .ok (.getfield 11, 3) := by decide +kernel
theorem dX1_keep_40 : decode cX1_keep 40 = .ok (.aload_n 0, 1) := by decide +kernel
theorem dX1_keep_41 : decode cX1_keep 41 = .ok (.getfield 18, 3) := by decide +kernel
theorem dX1_keep_44 : decode cX1_keep 44 = .ok (.aaload, 1) := by decide +kernel
theorem dX1_keep_45 : decode cX1_keep 45 = .ok (.astore_n 2, 1) := by decide +kernel
theorem dX1_keep_46 : decode cX1_keep 46 = .ok (.aload_n 2, 1) := by decide +kernel
theorem dX1_keep_47 : decode cX1_keep 47 = .ok (.ifnull 18, 3) := by decide +kernel
theorem dX1_keep_50 : decode cX1_keep 50 = .ok (.aload_n 2, 1) := by decide +kernel
theorem dX1_keep_51 : decode cX1_keep 51 = .ok (.aload_n 1, 1) := by decide +kernel
theorem dX1_keep_52 : decode cX1_keep 52 = .ok (.invokevirtual 25, 3) := by decide +kernel
theorem dX1_keep_55 : decode cX1_keep 55 = .ok (.aload_n 0, 1) := by decide +kernel
theorem dX1_keep_56 : decode cX1_keep 56 = .ok (.dup, 1) := by decide +kernel
theorem dX1_keep_57 : decode cX1_keep 57 = .ok (.getfield 18, 3) := by decide +kernel
theorem dX1_keep_60 : decode cX1_keep 60 = .ok (.iconst 1, 1) := by decide +kernel
theorem dX1_keep_61 : decode cX1_keep 61 = .ok (.iadd, 1) := by decide +kernel
theorem dX1_keep_62 : decode cX1_keep 62 = .ok (.putfield 18, 3) := by decide +kernel
theorem dX1_keep_65 : decode cX1_keep 65 = .ok (.return_, 1) := by decide +kernel
theorem dX1_dropOldest_0 : decode cX1_dropOldest 0 = .ok (.iconst 1, 1) := by decide +kernel
theorem dX1_dropOldest_1 : decode cX1_dropOldest 1 = .ok (.istore_n 1, 1) := by decide +kernel
theorem dX1_dropOldest_2 : decode cX1_dropOldest 2 = .ok (.iload_n 1, 1) := by decide +kernel
theorem dX1_dropOldest_3 : decode cX1_dropOldest 3 = .ok (.aload_n 0, 1) := by decide +kernel
theorem dX1_dropOldest_4 : decode cX1_dropOldest 4 = .ok (.getfield 11, 3) := by decide +kernel
theorem dX1_dropOldest_7 : decode cX1_dropOldest 7 = .ok (.arraylength, 1) := by decide +kernel
theorem dX1_dropOldest_8 : decode cX1_dropOldest 8 = .ok (.if_icmp .ge 39, 3) := by decide +kernel
theorem dX1_dropOldest_11 : decode cX1_dropOldest 11 = .ok (.aload_n 0, 1) := by decide +kernel
theorem dX1_dropOldest_12 : decode cX1_dropOldest 12 = .ok (.getfield 11, 3) := by decide +kernel
theorem dX1_dropOldest_15 : decode cX1_dropOldest 15 = .ok (.iload_n 1, 1) := by decide +kernel
theorem dX1_dropOldest_16 : decode cX1_dropOldest 16 = .ok (.aaload, 1) := by decide +kernel
theorem dX1_dropOldest_17 : decode cX1_dropOldest 17 = .ok (.astore_n 2, 1) := by decide +kernel
theorem dX1_dropOldest_18 : decode cX1_dropOldest 18 = .ok (.aload_n 0, 1) := by decide +kernel
theorem dX1_dropOldest_19 : decode cX1_dropOldest 19 = .ok (.getfield 11, 3) := by decide +kernel
theorem dX1_dropOldest_22 : decode cX1_dropOldest 22 = .ok (.iload_n 1, 1) := by decide +kernel
theorem dX1_dropOldest_23 : decode cX1_dropOldest 23 = .ok (.aload_n 0, 1) := by decide +kernel
theorem dX1_dropOldest_24 : decode cX1_dropOldest 24 = .ok (.getfield 11, 3) := by decide +kernel
theorem dX1_dropOldest_27 : decode cX1_dropOldest 27 = .ok (.iload_n 1, 1) := by decide +kernel
theorem dX1_dropOldest_28 : decode cX1_dropOldest 28 = .ok (.iconst 1, 1) := by decide +kernel
theorem dX1_dropOldest_29 : decode cX1_dropOldest 29 = .ok (.isub, 1) := by decide +kernel
theorem dX1_dropOldest_30 : decode cX1_dropOldest 30 = .ok (.aaload, 1) := by decide +kernel
theorem dX1_dropOldest_31 : decode cX1_dropOldest 31 = .ok (.aastore, 1) := by decide +kernel
theorem dX1_dropOldest_32 : decode cX1_dropOldest 32 = .ok (.aload_n 0, 1) := by decide +kernel
theorem dX1_dropOldest_33 : decode cX1_dropOldest 33 = .ok (.getfield 11, 3) := by decide +kernel
theorem dX1_dropOldest_36 : decode cX1_dropOldest 36 = .ok (.iload_n 1, 1) := by decide +kernel
theorem dX1_dropOldest_37 : decode cX1_dropOldest 37 = .ok (.iconst 1, 1) := by decide +kernel
theorem dX1_dropOldest_38 : decode cX1_dropOldest 38 = .ok (.isub, 1) := by decide +kernel
theorem dX1_dropOldest_39 : decode cX1_dropOldest 39 = .ok (.aload_n 2, 1) := by decide +kernel
theorem dX1_dropOldest_40 : decode cX1_dropOldest 40 = .ok (.aastore, 1) := by decide +kernel
theorem dX1_dropOldest_41 : decode cX1_dropOldest 41 = .ok (.iinc 1 1, 3) := by decide +kernel
theorem dX1_dropOldest_44 : decode cX1_dropOldest 44 = .ok (.goto (-42), 3) := by decide +kernel
theorem dX1_dropOldest_47 : decode cX1_dropOldest 47 = .ok (.aload_n 0, 1) := by decide +kernel
theorem dX1_dropOldest_48 : decode cX1_dropOldest 48 = .ok (.dup, 1) := by decide +kernel
theorem dX1_dropOldest_49 : decode cX1_dropOldest 49 = .ok (.getfield 18, 3) := by decide +kernel
theorem dX1_dropOldest_52 : decode cX1_dropOldest 52 = .ok (.iconst 1, 1) := by decide +kernel
theorem dX1_dropOldest_53 : decode cX1_dropOldest 53 = .ok (.isub, 1) := by decide +kernel
theorem dX1_dropOldest_54 : decode cX1_dropOldest 54 = .ok (.putfield 18, 3) := by decide +kernel
theorem dX1_dropOldest_57 : decode cX1_dropOldest 57 = .ok (.return_, 1) := by decide +kernel
theorem dX1_takeLatest_0 : decode cX1_takeLatest 0 = .ok (.aload_n 0, 1) := by decide +kernel
theorem dX1_takeLatest_1 : decode cX1_takeLatest 1 = .ok (.getfield 18, 3) := by decide +kernel
theorem dX1_takeLatest_4 : decode cX1_takeLatest 4 = .ok (.ifCond .le 15, 3) := by decide +kernel
theorem dX1_takeLatest_7 : decode cX1_takeLatest 7 = .ok (.aload_n 0, 1) := by decide +kernel
theorem dX1_takeLatest_8 : decode cX1_takeLatest 8 = .ok (.getfield 18, 3) := by decide +kernel
theorem dX1_takeLatest_11 : decode cX1_takeLatest 11 = .ok (.aload_n 0, 1) := by decide +kernel
theorem dX1_takeLatest_12 : decode cX1_takeLatest 12 = .ok (.getfield 11, 3) := by decide +kernel
theorem dX1_takeLatest_15 : decode cX1_takeLatest 15 = .ok (.arraylength, 1) := by decide +kernel
theorem dX1_takeLatest_16 : decode cX1_takeLatest 16 = .ok (.if_icmp .le 5, 3) := by decide +kernel
theorem dX1_takeLatest_19 : decode cX1_takeLatest 19 = .ok (.aconst_null, 1) := by decide +kernel
theorem dX1_takeLatest_20 : decode cX1_takeLatest 20 = .ok (.areturn, 1) := by decide +kernel
theorem dX1_takeLatest_21 : decode cX1_takeLatest 21 = .ok (.aload_n 0, 1) := by decide +kernel
theorem dX1_takeLatest_22 : decode cX1_takeLatest 22 = .ok (.dup, 1) := by decide +kernel
theorem dX1_takeLatest_23 : decode cX1_takeLatest 23 = .ok (.getfield 18, 3) := by decide +kernel
theorem dX1_takeLatest_26 : decode cX1_takeLatest 26 = .ok (.iconst 1, 1) := by decide +kernel
theorem dX1_takeLatest_27 : decode cX1_takeLatest 27 = .ok (.isub, 1) := by decide +kernel
theorem dX1_takeLatest_28 : decode cX1_takeLatest 28 = .ok (.putfield 18, 3) := by decide +kernel
theorem dX1_takeLatest_31 : decode cX1_takeLatest 31 = .ok (.aload_n 0, 1) := by decide +kernel
theorem dX1_takeLatest_32 : decode cX1_takeLatest 32 = .ok (.getfield 11, 3) := by decide +kernel
theorem dX1_takeLatest_35 : decode cX1_takeLatest 35 = .ok (.aload_n 0, 1) := by decide +kernel
theorem dX1_takeLatest_36 : decode cX1_takeLatest 36 = .ok (.getfield 18, 3) := by decide +kernel
theorem dX1_takeLatest_39 : decode cX1_takeLatest 39 = .ok (.aaload, 1) := by decide +kernel
theorem dX1_takeLatest_40 : decode cX1_takeLatest 40 = .ok (.areturn, 1) := by decide +kernel
theorem dX2_init_0 : decode cX2_init 0 = .ok (.aload_n 0, 1) := by decide +kernel
theorem dX2_init_1 : decode cX2_init 1 = .ok (.invokespecial 3, 3) := by decide +kernel
theorem dX2_init_4 : decode cX2_init 4 = .ok (.aload_n 0, 1) := by decide +kernel
theorem dX2_init_5 : decode cX2_init 5 = .ok (.iconst 4, 1) := by decide +kernel
theorem dX2_init_6 : decode cX2_init 6 = .ok (.anewarray 9, 3) := by decide +kernel
theorem dX2_init_9 : decode cX2_init 9 = .ok (.putfield 11, 3) := by decide +kernel
theorem dX2_init_12 : decode cX2_init 12 = .ok (.aload_n 0, 1) := by decide +kernel
theorem dX2_init_13 : decode cX2_init 13 = .ok (.bipush 10, 2) := by decide +kernel
theorem dX2_init_15 : decode cX2_init 15 = .ok (.anewarray 17, 3) := by decide +kernel
theorem dX2_init_18 : decode cX2_init 18 = .ok (.putfield 19, 3) := by decide +kernel
theorem dX2_init_21 : decode cX2_init 21 = .ok (.aload_n 0, 1) := by decide +kernel
theorem dX2_init_22 : decode cX2_init 22 = .ok (.new 23, 3) := by decide +kernel
theorem dX2_init_25 : decode cX2_init 25 = .ok (.dup, 1) := by decide +kernel
theorem dX2_init_26 : decode cX2_init 26 = .ok (.invokespecial 25, 3) := by decide +kernel
theorem dX2_init_29 : decode cX2_init 29 = .ok (.putfield 26, 3) := by decide +kernel
theorem dX2_init_32 : decode cX2_init 32 = .ok (.aload_n 0, 1) := by decide +kernel
theorem dX2_init_33 : decode cX2_init 33 = .ok (.new 30, 3) := by decide +kernel
theorem dX2_init_36 : decode cX2_init 36 = .ok (.dup, 1) := by decide +kernel
theorem dX2_init_37 : decode cX2_init 37 = .ok (.invokespecial 32, 3) := by decide +kernel
theorem dX2_init_40 : decode cX2_init 40 = .ok (.putfield 33, 3) := by decide +kernel
theorem dX2_init_43 : decode cX2_init 43 = .ok (.aload_n 0, 1) := by decide +kernel
theorem dX2_init_44 : decode cX2_init 44 = .ok (.new 37, 3) := by decide +kernel
theorem dX2_init_47 : decode cX2_init 47 = .ok (.dup, 1) := by decide +kernel
theorem dX2_init_48 : decode cX2_init 48 = .ok (.invokespecial 39, 3) := by decide +kernel
theorem dX2_init_51 : decode cX2_init 51 = .ok (.putfield 40, 3) := by decide +kernel
theorem dX2_init_54 : decode cX2_init 54 = .ok (.aload_n 0, 1) := by decide +kernel
theorem dX2_init_55 : decode cX2_init 55 = .ok (.iconst 1, 1) := by decide +kernel
theorem dX2_init_56 : decode cX2_init 56 = .ok (.putfield 44, 3) := by decide +kernel
theorem dX2_init_59 : decode cX2_init 59 = .ok (.iconst 0, 1) := by decide +kernel
theorem dX2_init_60 : decode cX2_init 60 = .ok (.istore_n 1, 1) := by decide +kernel
theorem dX2_init_61 : decode cX2_init 61 = .ok (.iload_n 1, 1) := by decide +kernel
theorem dX2_init_62 : decode cX2_init 62 = .ok (.aload_n 0, 1) := by decide +kernel
theorem dX2_init_63 : decode cX2_init 63 = .ok (.getfield 11, 3) := by decide +kernel
theorem dX2_init_66 : decode cX2_init 66 = .ok (.arraylength, 1) := by decide +kernel
theorem dX2_init_67 : decode cX2_init 67 = .ok (.if_icmp .ge 22, 3) := by decide +kernel
theorem dX2_init_70 : decode cX2_init 70 = .ok (.aload_n 0, 1) := by decide +kernel
theorem dX2_init_71 : decode cX2_init 71 = .ok (.getfield 11, 3) := by decide +kernel
theorem dX2_init_74 : decode cX2_init 74 = .ok (.iload_n 1, 1) := by decide +kernel
theorem dX2_init_75 : decode cX2_init 75 = .ok (.new 9, 3) := by decide +kernel
theorem dX2_init_78 : decode cX2_init 78 = .ok (.dup, 1) := by decide +kernel
theorem dX2_init_79 : decode cX2_init 79 = .ok (.invokespecial 48, 3) := by decide +kernel
theorem dX2_init_82 : decode cX2_init 82 = .ok (.aastore, 1) := by decide +kernel
theorem dX2_init_83 : decode cX2_init 83 = .ok (.iinc 1 1, 3) := by decide +kernel
theorem dX2_init_86 : decode cX2_init 86 = .ok (.goto (-25), 3) := by decide +kernel
theorem dX2_init_89 : decode cX2_init 89 = .ok (.iconst 0, 1) := by decide +kernel
theorem dX2_init_90 : decode cX2_init 90 = .ok (.istore_n 1, 1) := by decide +kernel
theorem dX2_init_91 : decode cX2_init 91 = .ok (.iload_n 1, 1) := by decide +kernel
theorem dX2_init_92 : decode cX2_init 92 = .ok (.aload_n 0, 1) := by decide +kernel
theorem dX2_init_93 : decode cX2_init 93 = .ok (.getfield 19, 3) := by decide +kernel
theorem dX2_init_96 : decode cX2_init 96 = .ok (.arraylength, 1) := by decide +kernel
theorem dX2_init_97 : decode cX2_init 97 = .ok (.if_icmp .ge 22, 3) := by decide +kernel
theorem dX2_init_100 : decode cX2_init 100 = .ok (.aload_n 0, 1) := by decide +kernel
theorem dX2_init_101 : decode cX2_init 101 = .ok (.getfield 19, 3) := by decide +kernel
theorem dX2_init_104 : decode cX2_init 104 = .ok (.iload_n 1, 1) := by decide +kernel
theorem dX2_init_105 : decode cX2_init 105 = .ok (.new 17, 3) := by decide +kernel
theorem dX2_init_108 : decode cX2_init 108 = .ok (.dup, 1) := by decide +kernel
theorem dX2_init_109 : decode cX2_init 109 = .ok (.invokespecial 49, 3) := by decide +kernel
theorem dX2_init_112 : decode cX2_init 112 = .ok (.aastore, 1) := by decide +kernel
theorem dX2_init_113 : decode cX2_init 113 = .ok (.iinc 1 1, 3) := by decide +kernel
theorem dX2_init_116 : decode cX2_init 116 = .ok (.goto (-25), 3) := by decide +kernel
theorem dX2_init_119 : decode cX2_init 119 = .ok (.return_, 1) := by decide +kernel
theorem dX2_copyFrom_0 : decode cX2_copyFrom 0 = .ok (.aload_n 0, 1) := by decide +kernel
theorem dX2_copyFrom_1 : decode cX2_copyFrom 1 = .ok (.aload_n 1, 1) := by decide +kernel
theorem dX2_copyFrom_2 : decode cX2_copyFrom 2 = .ok (.getfield 50, 3) := by decide +kernel
theorem dX2_copyFrom_5 : decode cX2_copyFrom 5 = .ok (.putfield 50, 3) := by decide +kernel
theorem dX2_copyFrom_8 : decode cX2_copyFrom 8 = .ok (.aload_n 0, 1) := by decide +kernel
theorem dX2_copyFrom_9 : decode cX2_copyFrom 9 = .ok (.aload_n 1, 1) := by decide +kernel
theorem dX2_copyFrom_10 : decode cX2_copyFrom 10 = .ok (.getfield 53, 3) := by decide +kernel
theorem dX2_copyFrom_13 : decode cX2_copyFrom 13 = .ok (.putfield 53, 3) := by decide +kernel
theorem dX2_copyFrom_16 : decode cX2_copyFrom 16 = .ok (.aload_n 0, 1) := by decide +kernel
theorem dX2_copyFrom_17 : decode cX2_copyFrom 17 = .ok (.aload_n 1, 1) := by decide +kernel
theorem dX2_copyFrom_18 : decode cX2_copyFrom 18 = .ok (.getfield 56, 3) := by decide +kernel
theorem dX2_copyFrom_21 : decode cX2_copyFrom 21 = .ok (.putfield 56, 3) := by decide +kernel
theorem dX2_copyFrom_24 : decode cX2_copyFrom 24 = .ok (.aload_n 0, 1) := by decide +kernel
theorem dX2_copyFrom_25 : decode cX2_copyFrom 25 = .ok (.aload_n 1, 1) := by decide +kernel
theorem dX2_copyFrom_26 : decode cX2_copyFrom 26 = .ok (.getfield 59, 3) := by decide +kernel
theorem dX2_copyFrom_29 : decode cX2_copyFrom 29 = .ok (.putfield 59, 3) := by decide +kernel
theorem dX2_copyFrom_32 : decode cX2_copyFrom 32 = .ok (.aload_n 0, 1) := by decide +kernel
theorem dX2_copyFrom_33 : decode cX2_copyFrom 33 = .ok (.aload_n 1, 1) := by decide +kernel
theorem dX2_copyFrom_34 : decode cX2_copyFrom 34 = .ok (.getfield 44, 3) := by decide +kernel
theorem dX2_copyFrom_37 : decode cX2_copyFrom 37 = .ok (.putfield 44, 3) := by decide +kernel
theorem dX2_copyFrom_40 : decode cX2_copyFrom 40 = .ok (.aload_n 0, 1) := by decide +kernel
theorem dX2_copyFrom_41 : decode cX2_copyFrom 41 = .ok (.getfield 26, 3) := by decide +kernel
theorem dX2_copyFrom_44 : decode cX2_copyFrom 44 = .ok (.aload_n 1, 1) := by decide +kernel
theorem dX2_copyFrom_45 : decode cX2_copyFrom 45 = .ok (.getfield 26, 3) := by decide +kernel
theorem dX2_copyFrom_48 : decode cX2_copyFrom 48 = .ok (.invokevirtual 62, 3) := by decide +kernel
theorem dX2_copyFrom_51 : decode cX2_copyFrom 51 = .ok (.aload_n 0, 1) := by decide +kernel
theorem dX2_copyFrom_52 : decode cX2_copyFrom 52 = .ok (.getfield 33, 3) := by decide +kernel
theorem dX2_copyFrom_55 : decode cX2_copyFrom 55 = .ok (.aload_n 1, 1) := by decide +kernel
theorem dX2_copyFrom_56 : decode cX2_copyFrom 56 = .ok (.getfield 33, 3) := by decide +kernel
theorem dX2_copyFrom_59 : decode cX2_copyFrom 59 = .ok (.invokevirtual 66, 3) := by decide +kernel
theorem dX2_copyFrom_62 : decode cX2_copyFrom 62 = .ok (.aload_n 0, 1) := by decide +kernel
theorem dX2_copyFrom_63 : decode cX2_copyFrom 63 = .ok (.getfield 40, 3) := by decide +kernel
theorem dX2_copyFrom_66 : decode cX2_copyFrom 66 = .ok (.aload_n 1, 1) := by decide +kernel
theorem dX2_copyFrom_67 : decode cX2_copyFrom 67 = .ok (.getfield 40, 3) := by decide +kernel
theorem dX2_copyFrom_70 : decode cX2_copyFrom 70 = .ok (.invokevirtual 69, 3) := by decide +kernel
theorem dX2_copyFrom_73 : decode cX2_copyFrom 73 = .ok (.iconst 0, 1) := by decide +kernel
theorem dX2_copyFrom_74 : decode cX2_copyFrom 74 = .ok (.istore_n 2, 1) := by decide +kernel
theorem dX2_copyFrom_75 : decode cX2_copyFrom 75 = .ok (.iload_n 2, 1) := by decide +kernel
theorem dX2_copyFrom_76 : decode cX2_copyFrom 76 = .ok (.aload_n 0, 1) := by decide +kernel
theorem dX2_copyFrom_77 : decode cX2_copyFrom 77 = .ok (.getfield 50, 3) := by decide +kernel
theorem dX2_copyFrom_80 : decode cX2_copyFrom 80 = .ok (.if_icmp .ge 37, 3) := by decide +kernel
theorem dX2_copyFrom_83 : decode cX2_copyFrom 83 = .ok (.aload_n 0, 1) := by decide +kernel
theorem dX2_copyFrom_84 : decode cX2_copyFrom 84 = .ok (.iload_n 2, 1) := by decide +kernel
theorem dX2_copyFrom_85 : decode cX2_copyFrom 85 = .ok (.invokevirtual 72, 3) := by decide +kernel
theorem dX2_copyFrom_88 : decode cX2_copyFrom 88 = .ok (.astore_n 3, 1) := by decide +kernel
theorem dX2_copyFrom_89 : decode cX2_copyFrom 89 = .ok (.aload_n 1, 1) := by decide +kernel
theorem dX2_copyFrom_90 : decode cX2_copyFrom 90 = .ok (.iload_n 2, 1) := by decide +kernel
theorem dX2_copyFrom_91 : decode cX2_copyFrom 91 = .ok (.invokevirtual 72, 3) := by decide +kernel
theorem dX2_copyFrom_94 : decode cX2_copyFrom 94 = .ok (.astore 4, 2) := by decide +kernel
theorem dX2_copyFrom_96 : decode cX2_copyFrom 96 = .ok (.aload_n 3, 1) := by decide +kernel
theorem dX2_copyFrom_97 : decode cX2_copyFrom 97 = .ok (.ifnull 14, 3) := by decide +kernel
theorem dX2_copyFrom_100 : decode cX2_copyFrom 100 = .ok (.aload 4, 2) := by decide +kernel
theorem dX2_copyFrom_102 : decode cX2_copyFrom 102 = .ok (.ifnull 9, 3) := by decide +kernel
theorem dX2_copyFrom_105 : decode cX2_copyFrom 105 = .ok (.aload_n 3, 1) := by decide +kernel
theorem dX2_copyFrom_106 : decode cX2_copyFrom 106 = .ok (.aload 4, 2) := by decide +kernel
theorem dX2_copyFrom_108 : decode cX2_copyFrom 108 = .ok (.invokevirtual 76, 3) := by decide +kernel
theorem dX2_copyFrom_111 : decode cX2_copyFrom 111 = .ok (.iinc 2 1, 3) := by decide +kernel
theorem dX2_copyFrom_114 : decode cX2_copyFrom 114 = .ok (.goto (-39), 3) := by decide +kernel
theorem dX2_copyFrom_117 : decode cX2_copyFrom 117 = .ok (.iconst 0, 1) := by decide +kernel
theorem dX2_copyFrom_118 : decode cX2_copyFrom 118 = .ok (.istore_n 2, 1) := by decide +kernel
theorem dX2_copyFrom_119 : decode cX2_copyFrom 119 = .ok (.iload_n 2, 1) := by decide +kernel
theorem dX2_copyFrom_120 : decode cX2_copyFrom 120 = .ok (.aload_n 0, 1) := by decide +kernel
theorem dX2_copyFrom_121 : decode cX2_copyFrom 121 = .ok (.getfield 53, 3) := by decide +kernel
theorem dX2_copyFrom_124 : decode cX2_copyFrom 124 = .ok (.if_icmp .ge 37, 3) := by decide +kernel
theorem dX2_copyFrom_127 : decode cX2_copyFrom 127 = .ok (.aload_n 0, 1) := by decide +kernel
theorem dX2_copyFrom_128 : decode cX2_copyFrom 128 = .ok (.iload_n 2, 1) := by decide +kernel
theorem dX2_copyFrom_129 : decode cX2_copyFrom 129 = .ok (.invokevirtual 79, 3) := by decide +kernel
theorem dX2_copyFrom_132 : decode cX2_copyFrom 132 = .ok (.astore_n 3, 1) := by decide +kernel
theorem dX2_copyFrom_133 : decode cX2_copyFrom 133 = .ok (.aload_n 1, 1) := by decide +kernel
theorem dX2_copyFrom_134 : decode cX2_copyFrom 134 = .ok (.iload_n 2, 1) := by decide +kernel
theorem dX2_copyFrom_135 : decode cX2_copyFrom 135 = .ok (.invokevirtual 79, 3) := by decide +kernel
theorem dX2_copyFrom_138 : decode cX2_copyFrom 138 = .ok (.astore 4, 2) := by decide +kernel
theorem dX2_copyFrom_140 : decode cX2_copyFrom 140 = .ok (.aload_n 3, 1) := by decide +kernel
theorem dX2_copyFrom_141 : decode cX2_copyFrom 141 = .ok (.ifnull 14, 3) := by decide +kernel
theorem dX2_copyFrom_144 : decode cX2_copyFrom 144 = .ok (.aload 4, 2) := by decide +kernel
theorem dX2_copyFrom_146 : decode cX2_copyFrom 146 = .ok (.ifnull 9, 3) := by decide +kernel
theorem dX2_copyFrom_149 : decode cX2_copyFrom 149 = .ok (.aload_n 3, 1) := by decide +kernel
theorem dX2_copyFrom_150 : decode cX2_copyFrom 150 = .ok (.aload 4, 2) := by decide +kernel
theorem dX2_copyFrom_152 : decode cX2_copyFrom 152 = .ok (.invokevirtual 83, 3) := by decide +kernel
theorem dX2_copyFrom_155 : decode cX2_copyFrom 155 = .ok (.iinc 2 1, 3) := by decide +kernel
theorem dX2_copyFrom_158 : decode cX2_copyFrom 158 = .ok (.goto (-39), 3) := by decide +kernel
theorem dX2_copyFrom_161 : decode cX2_copyFrom 161 = .ok (.return_, 1) := by decide +kernel
theorem dX2_muleAt_0 : decode cX2_muleAt 0 = .ok (.iload_n 1, 1) := by decide +kernel
theorem dX2_muleAt_1 : decode cX2_muleAt 1 = .ok (.ifCond .lt 29, 3) := by decide +kernel
theorem dX2_muleAt_4 : decode cX2_muleAt 4 = .ok (.iload_n 1, 1) := by decide +kernel
theorem dX2_muleAt_5 : decode cX2_muleAt 5 = .ok (.aload_n 0, 1) := by decide +kernel
theorem dX2_muleAt_6 : decode cX2_muleAt 6 = .ok (.getfield 50, 3) := by decide +kernel
theorem dX2_muleAt_9 : decode cX2_muleAt 9 = .ok (.if_icmp .ge 21, 3) := by decide +kernel
theorem dX2_muleAt_12 : decode cX2_muleAt 12 = .ok (.iload_n 1, 1) := by decide +kernel
theorem dX2_muleAt_13 : decode cX2_muleAt 13 = .ok (.aload_n 0, 1) := by decide +kernel
theorem dX2_muleAt_14 : decode cX2_muleAt 14 = .ok (.getfield 11, 3) := by decide +kernel
theorem dX2_muleAt_17 : decode cX2_muleAt 17 = .ok (.arraylength, 1) := by decide +kernel
theorem dX2_muleAt_18 : decode cX2_muleAt 18 = .ok (.if_icmp .ge 12, 3) := by decide +kernel
theorem dX2_muleAt_21 : decode cX2_muleAt 21 = .ok (.aload_n 0, 1) := by decide +kernel
theorem dX2_muleAt_22 : decode cX2_muleAt 22 = .ok (.getfield 11, 3) := by decide +kernel
theorem dX2_muleAt_25 : decode cX2_muleAt 25 = .ok (.iload_n 1, 1) := by decide +kernel
theorem dX2_muleAt_26 : decode cX2_muleAt 26 = .ok (.aaload, 1) := by decide +kernel
theorem dX2_muleAt_27 : decode cX2_muleAt 27 = .ok (.goto 4, 3) := by decide +kernel
theorem dX2_muleAt_30 : decode cX2_muleAt 30 = .ok (.aconst_null, 1) := by decide +kernel
theorem dX2_muleAt_31 : decode cX2_muleAt 31 = .ok (.areturn, 1) := by decide +kernel
theorem dX2_groupAt_0 : decode cX2_groupAt 0 = .ok (.iload_n 1, 1) := by decide +kernel
theorem dX2_groupAt_1 : decode cX2_groupAt 1 = .ok (.ifCond .lt 29, 3) := by decide +kernel
theorem dX2_groupAt_4 : decode cX2_groupAt 4 = .ok (.iload_n 1, 1) := by decide +kernel
theorem dX2_groupAt_5 : decode cX2_groupAt 5 = .ok (.aload_n 0, 1) := by decide +kernel
theorem dX2_groupAt_6 : decode cX2_groupAt 6 = .ok (.getfield 53, 3) := by decide +kernel
theorem dX2_groupAt_9 : decode cX2_groupAt 9 = .ok (.if_icmp .ge 21, 3) := by decide +kernel
theorem dX2_groupAt_12 : decode cX2_groupAt 12 = .ok (.iload_n 1, 1) := by decide +kernel
theorem dX2_groupAt_13 : decode cX2_groupAt 13 = .ok (.aload_n 0, 1) := by decide +kernel
theorem dX2_groupAt_14 : decode cX2_groupAt 14 = .ok (.getfield 19, 3) := by decide +kernel
theorem dX2_groupAt_17 : decode cX2_groupAt 17 = .ok (.arraylength, 1) := by decide +kernel
theorem dX2_groupAt_18 : decode cX2_groupAt 18 = .ok (.if_icmp .ge 12, 3) := by decide +kernel
theorem dX2_groupAt_21 : decode cX2_groupAt 21 = .ok (.aload_n 0, 1) := by decide +kernel
theorem dX2_groupAt_22 : decode cX2_groupAt 22 = .ok (.getfield 19, 3) := by decide +kernel
theorem dX2_groupAt_25 : decode cX2_groupAt 25 = .ok (.iload_n 1, 1) := by decide +kernel
theorem dX2_groupAt_26 : decode cX2_groupAt 26 = .ok (.aaload, 1) := by decide +kernel
theorem dX2_groupAt_27 : decode cX2_groupAt 27 = .ok (.goto 4, 3) := by decide +kernel
theorem dX2_groupAt_30 : decode cX2_groupAt 30 = .ok (.aconst_null, 1) := by decide +kernel
theorem dX2_groupAt_31 : decode cX2_groupAt 31 = .ok (.areturn, 1) := by decide +kernel
theorem dX2_placeOfGroup_0 : decode cX2_placeOfGroup 0 = .ok (.iconst 0, 1) := by decide +kernel
theorem dX2_placeOfGroup_1 : decode cX2_placeOfGroup 1 = .ok (.istore_n 2, 1) := by decide +kernel
theorem dX2_placeOfGroup_2 : decode cX2_placeOfGroup 2 = .ok (.iload_n 2, 1) := by decide +kernel
theorem dX2_placeOfGroup_3 : decode cX2_placeOfGroup 3 = .ok (.aload_n 0, 1) := by decide +kernel
theorem dX2_placeOfGroup_4 : decode cX2_placeOfGroup 4 = .ok (.getfield 53, 3) := by decide +kernel
theorem dX2_placeOfGroup_7 : decode cX2_placeOfGroup 7 = .ok (.if_icmp .ge 29, 3) := by decide +kernel
theorem dX2_placeOfGroup_10 : decode cX2_placeOfGroup 10 = .ok (.aload_n 0, 1) := by decide +kernel
theorem dX2_placeOfGroup_11 : decode cX2_placeOfGroup 11 = .ok (.iload_n 2, 1) := by decide +kernel
theorem dX2_placeOfGroup_12 : decode cX2_placeOfGroup 12 = .ok (.invokevirtual 79, 3) := by decide +kernel
theorem dX2_placeOfGroup_15 : decode cX2_placeOfGroup 15 = .ok (.astore_n 3, 1) := by decide +kernel
theorem dX2_placeOfGroup_16 : decode cX2_placeOfGroup 16 = .ok (.aload_n 3, 1) := by decide +kernel
theorem dX2_placeOfGroup_17 : decode cX2_placeOfGroup 17 = .ok (.ifnull 13, 3) := by decide +kernel
theorem dX2_placeOfGroup_20 : decode cX2_placeOfGroup 20 = .ok (.aload_n 3, 1) := by decide +kernel
theorem dX2_placeOfGroup_21 : decode cX2_placeOfGroup 21 = .ok (.getfield 86, 3) := by decide +kernel
theorem dX2_placeOfGroup_24 : decode cX2_placeOfGroup 24 = .ok (.iload_n 1, 1) := by decide +kernel
theorem dX2_placeOfGroup_25 : decode cX2_placeOfGroup 25 = .ok (.if_icmp .ne 5, 3) := by decide +kernel
theorem dX2_placeOfGroup_28 : decode cX2_placeOfGroup 28 = .ok (.iload_n 2, 1) := by decide +kernel
theorem dX2_placeOfGroup_29 : decode cX2_placeOfGroup 29 = .ok (.ireturn, 1) := by decide +kernel
theorem dX2_placeOfGroup_30 : decode cX2_placeOfGroup 30 = .ok (.iinc 2 1, 3) := by decide +kernel
theorem dX2_placeOfGroup_33 : decode cX2_placeOfGroup 33 = .ok (.goto (-31), 3) := by decide +kernel
theorem dX2_placeOfGroup_36 : decode cX2_placeOfGroup 36 = .ok (.iconst (-1), 1) := by decide +kernel
theorem dX2_placeOfGroup_37 : decode cX2_placeOfGroup 37 = .ok (.ireturn, 1) := by decide +kernel
theorem dX2_addMule_0 : decode cX2_addMule 0 = .ok (.iload_n 1, 1) := by decide +kernel
theorem dX2_addMule_1 : decode cX2_addMule 1 = .ok (.iconst 1, 1) := by decide +kernel
theorem dX2_addMule_2 : decode cX2_addMule 2 = .ok (.bipush 30, 2) := by decide +kernel
theorem dX2_addMule_4 : decode cX2_addMule 4 = .ok (.invokestatic 89, 3) := by decide +kernel
theorem dX2_addMule_7 : decode cX2_addMule 7 = .ok (.ifCond .eq 13, 3) := by decide +kernel
theorem dX2_addMule_10 : decode cX2_addMule 10 = .ok (.iload_n 2, 1) := by decide +kernel
theorem dX2_addMule_11 : decode cX2_addMule 11 = .ok (.iconst 1, 1) := by decide +kernel
theorem dX2_addMule_12 : decode cX2_addMule 12 = .ok (.bipush 9, 2) := by decide +kernel
theorem dX2_addMule_14 : decode cX2_addMule 14 = .ok (.invokestatic 89, 3) := by decide +kernel
theorem dX2_addMule_17 : decode cX2_addMule 17 = .ok (.ifCond .ne 6, 3) := by decide +kernel
theorem dX2_addMule_20 : decode cX2_addMule 20 = .ok (.ldc 93, 2) := by decide +kernel
theorem dX2_addMule_22 : decode cX2_addMule 22 = .ok (.ireturn, 1) := by decide +kernel
theorem dX2_addMule_23 : decode cX2_addMule 23 = .ok (.aload_n 0, 1) := by decide +kernel
theorem dX2_addMule_24 : decode cX2_addMule 24 = .ok (.getfield 50, 3) := by decide +kernel
theorem dX2_addMule_27 : decode cX2_addMule 27 = .ok (.iconst 4, 1) := by decide +kernel
theorem dX2_addMule_28 : decode cX2_addMule 28 = .ok (.if_icmp .lt 6, 3) := by decide +kernel
theorem dX2_addMule_31 : decode cX2_addMule 31 = .ok (.ldc 94, 2) := by decide +kernel
theorem dX2_addMule_33 : decode cX2_addMule 33 = .ok (.ireturn, 1) := by decide +kernel
theorem dX2_addMule_34 : decode cX2_addMule 34 = .ok (.aload_n 0, 1) := by decide +kernel
theorem dX2_addMule_35 : decode cX2_addMule 35 = .ok (.getfield 50, 3) := by decide +kernel
theorem dX2_addMule_38 : decode cX2_addMule 38 = .ok (.istore_n 3, 1) := by decide +kernel
theorem dX2_addMule_39 : decode cX2_addMule 39 = .ok (.aload_n 0, 1) := by decide +kernel
theorem dX2_addMule_40 : decode cX2_addMule 40 = .ok (.dup, 1) := by decide +kernel
theorem dX2_addMule_41 : decode cX2_addMule 41 = .ok (.getfield 50, 3) := by decide +kernel
theorem dX2_addMule_44 : decode cX2_addMule 44 = .ok (.iconst 1, 1) := by decide +kernel
theorem dX2_addMule_45 : decode cX2_addMule 45 = .ok (.iadd, 1) := by decide +kernel
theorem dX2_addMule_46 : decode cX2_addMule 46 = .ok (.putfield 50, 3) := by decide +kernel
theorem dX2_addMule_49 : decode cX2_addMule 49 = .ok (.aload_n 0, 1) := by decide +kernel
theorem dX2_addMule_50 : decode cX2_addMule 50 = .ok (.iload_n 3, 1) := by decide +kernel
theorem dX2_addMule_51 : decode cX2_addMule 51 = .ok (.invokevirtual 72, 3) := by decide +kernel
theorem dX2_addMule_54 : decode cX2_addMule 54 = .ok (.astore 4, 2) := by decide +kernel
theorem dX2_addMule_56 : decode cX2_addMule 56 = .ok (.aload 4, 2) := by decide +kernel
theorem dX2_addMule_58 : decode cX2_addMule 58 = .ok (.ifnull 10, 3) := by decide +kernel
theorem dX2_addMule_61 : decode cX2_addMule 61 = .ok (.aload 4, 2) := by decide +kernel
theorem dX2_addMule_63 : decode cX2_addMule 63 = .ok (.iload_n 1, 1) := by decide +kernel
theorem dX2_addMule_64 : decode cX2_addMule 64 = .ok (.iload_n 2, 1) := by decide +kernel
theorem dX2_addMule_65 : decode cX2_addMule 65 = .ok (.invokevirtual 95, 3) := by decide +kernel
theorem dX2_addMule_68 : decode cX2_addMule 68 = .ok (.iload_n 3, 1) := by decide +kernel
theorem dX2_addMule_69 : decode cX2_addMule 69 = .ok (.ireturn, 1) := by decide +kernel
theorem dX2_whyNot_0 : decode cX2_whyNot 0 = .ok (.aload_n 0, 1) := by decide +kernel
theorem dX2_whyNot_1 : decode cX2_whyNot 1 = .ok (.iload_n 1, 1) := by decide +kernel
theorem dX2_whyNot_2 : decode cX2_whyNot 2 = .ok (.invokevirtual 72, 3) := by decide +kernel
theorem dX2_whyNot_5 : decode cX2_whyNot 5 = .ok (.astore_n 3, 1) := by decide +kernel
theorem dX2_whyNot_6 : decode cX2_whyNot 6 = .ok (.aload_n 3, 1) := by decide +kernel
theorem dX2_whyNot_7 : decode cX2_whyNot 7 = .ok (.ifnull 13, 3) := by decide +kernel
theorem dX2_whyNot_10 : decode cX2_whyNot 10 = .ok (.iload_n 2, 1) := by decide +kernel
theorem dX2_whyNot_11 : decode cX2_whyNot 11 = .ok (.iconst 1, 1) := by decide +kernel
theorem dX2_whyNot_12 : decode cX2_whyNot 12 = .ok (.bipush 30, 2) := by decide +kernel
theorem dX2_whyNot_14 : decode cX2_whyNot 14 = .ok (.invokestatic 89, 3) := by decide +kernel
theorem dX2_whyNot_17 : decode cX2_whyNot 17 = .ok (.ifCond .ne 6, 3) := by decide +kernel
theorem dX2_whyNot_20 : decode cX2_whyNot 20 = .ok (.ldc 93, 2) := by decide +kernel
theorem dX2_whyNot_22 : decode cX2_whyNot 22 = .ok (.ireturn, 1) := by decide +kernel
theorem dX2_whyNot_23 : decode cX2_whyNot 23 = .ok (.aload_n 3, 1) := by decide +kernel
theorem dX2_whyNot_24 : decode cX2_whyNot 24 = .ok (.getfield 99, 3) := by decide +kernel
theorem dX2_whyNot_27 : decode cX2_whyNot 27 = .ok (.ifCond .eq 5, 3) := by decide +kernel
theorem dX2_whyNot_30 : decode cX2_whyNot 30 = .ok (.iconst 1, 1) := by decide +kernel
theorem dX2_whyNot_31 : decode cX2_whyNot 31 = .ok (.ireturn, 1) := by decide +kernel
theorem dX2_whyNot_32 : decode cX2_whyNot 32 = .ok (.iload_n 2, 1) := by decide +kernel
theorem dX2_whyNot_33 : decode cX2_whyNot 33 = .ok (.aload_n 3, 1) := by decide +kernel
theorem dX2_whyNot_34 : decode cX2_whyNot 34 = .ok (.getfield 102, 3) := by decide +kernel
theorem dX2_whyNot_37 : decode cX2_whyNot 37 = .ok (.if_icmp .le 5, 3) := by decide +kernel
theorem dX2_whyNot_40 : decode cX2_whyNot 40 = .ok (.iconst 2, 1) := by decide +kernel
theorem dX2_whyNot_41 : decode cX2_whyNot 41 = .ok (.ireturn, 1) := by decide +kernel
theorem dX2_whyNot_42 : decode cX2_whyNot 42 = .ok (.aload_n 0, 1) := by decide +kernel
theorem dX2_whyNot_43 : decode cX2_whyNot 43 = .ok (.getfield 33, 3) := by decide +kernel
theorem dX2_whyNot_46 : decode cX2_whyNot 46 = .ok (.getfield 105, 3) := by decide +kernel
theorem dX2_whyNot_49 : decode cX2_whyNot 49 = .ok (.iload_n 2, 1) := by decide +kernel
theorem dX2_whyNot_50 : decode cX2_whyNot 50 = .ok (.aload_n 0, 1) := by decide +kernel
theorem dX2_whyNot_51 : decode cX2_whyNot 51 = .ok (.getfield 40, 3) := by decide +kernel
theorem dX2_whyNot_54 : decode cX2_whyNot 54 = .ok (.getfield 108, 3) := by decide +kernel
theorem dX2_whyNot_57 : decode cX2_whyNot 57 = .ok (.imul, 1) := by decide +kernel
theorem dX2_whyNot_58 : decode cX2_whyNot 58 = .ok (.iadd, 1) := by decide +kernel
theorem dX2_whyNot_59 : decode cX2_whyNot 59 = .ok (.aload_n 0, 1) := by decide +kernel
theorem dX2_whyNot_60 : decode cX2_whyNot 60 = .ok (.getfield 40, 3) := by decide +kernel
theorem dX2_whyNot_63 : decode cX2_whyNot 63 = .ok (.getfield 111, 3) := by decide +kernel
theorem dX2_whyNot_66 : decode cX2_whyNot 66 = .ok (.if_icmp .le 7, 3) := by decide +kernel
theorem dX2_whyNot_69 : decode cX2_whyNot 69 = .ok (.iconst 3, 1) := by decide +kernel
theorem dX2_whyNot_70 : decode cX2_whyNot 70 = .ok (.goto 4, 3) := by decide +kernel
theorem dX2_whyNot_73 : decode cX2_whyNot 73 = .ok (.iconst 0, 1) := by decide +kernel
theorem dX2_whyNot_74 : decode cX2_whyNot 74 = .ok (.ireturn, 1) := by decide +kernel
theorem dX2_sendMule_0 : decode cX2_sendMule 0 = .ok (.aload_n 0, 1) := by decide +kernel
theorem dX2_sendMule_1 : decode cX2_sendMule 1 = .ok (.iload_n 1, 1) := by decide +kernel
theorem dX2_sendMule_2 : decode cX2_sendMule 2 = .ok (.iload_n 2, 1) := by decide +kernel
theorem dX2_sendMule_3 : decode cX2_sendMule 3 = .ok (.invokevirtual 114, 3) := by decide +kernel
theorem dX2_sendMule_6 : decode cX2_sendMule 6 = .ok (.istore_n 3, 1) := by decide +kernel
theorem dX2_sendMule_7 : decode cX2_sendMule 7 = .ok (.iload_n 3, 1) := by decide +kernel
theorem dX2_sendMule_8 : decode cX2_sendMule 8 = .ok (.ldc 93, 2) := by decide +kernel
theorem dX2_sendMule_10 : decode cX2_sendMule 10 = .ok (.if_icmp .ne 6, 3) := by decide +kernel
theorem dX2_sendMule_13 : decode cX2_sendMule 13 = .ok (.ldc 93, 2) := by decide +kernel
theorem dX2_sendMule_15 : decode cX2_sendMule 15 = .ok (.ireturn, 1) := by decide +kernel
theorem dX2_sendMule_16 : decode cX2_sendMule 16 = .ok (.aload_n 0, 1) := by decide +kernel
theorem dX2_sendMule_17 : decode cX2_sendMule 17 = .ok (.iload_n 1, 1) := by decide +kernel
theorem dX2_sendMule_18 : decode cX2_sendMule 18 = .ok (.invokevirtual 72, 3) := by decide +kernel
theorem dX2_sendMule_21 : decode cX2_sendMule 21 = .ok (.astore 4, 2) := by decide +kernel
theorem dX2_sendMule_23 : decode cX2_sendMule 23 = .ok (.iload_n 3, 1) := by decide +kernel
theorem dX2_sendMule_24 : decode cX2_sendMule 24 = .ok (.ifCond .ne 8, 3) := by decide +kernel
theorem dX2_sendMule_27 : decode cX2_sendMule 27 = .ok (.aload 4, 2) := by decide +kernel
theorem dX2_sendMule_29 : decode cX2_sendMule 29 = .ok (.ifnonnull 6, 3) := by decide +kernel
theorem dX2_sendMule_32 : decode cX2_sendMule 32 = .ok (.ldc 118, 2) := by decide +kernel
theorem dX2_sendMule_34 : decode cX2_sendMule 34 = .ok (.ireturn, 1) := by decide +kernel
theorem dX2_sendMule_35 : decode cX2_sendMule 35 = .ok (.aload 4, 2) := by decide +kernel
theorem dX2_sendMule_37 : decode cX2_sendMule 37 = .ok (.iload_n 2, 1) := by decide +kernel
theorem dX2_sendMule_38 : decode cX2_sendMule 38 = .ok (.aload_n 0, 1) := by decide +kernel
theorem dX2_sendMule_39 : decode cX2_sendMule 39 = .ok (.getfield 59, 3) := by decide +kernel
theorem dX2_sendMule_42 : decode cX2_sendMule 42 = .ok (.invokevirtual 119, 3) := by decide +kernel
theorem dX2_sendMule_45 : decode cX2_sendMule 45 = .ok (.aload_n 0, 1) := by decide +kernel
theorem dX2_sendMule_46 : decode cX2_sendMule 46 = .ok (.getfield 33, 3) := by decide +kernel
theorem dX2_sendMule_49 : decode cX2_sendMule 49 = .ok (.dup, 1) := by decide +kernel
theorem dX2_sendMule_50 : decode cX2_sendMule 50 = .ok (.getfield 122, 3) := by decide +kernel
theorem dX2_sendMule_53 : decode cX2_sendMule 53 = .ok (.iload_n 2, 1) := by decide +kernel
theorem dX2_sendMule_54 : decode cX2_sendMule 54 = .ok (.iadd, 1) := by decide +kernel
theorem dX2_sendMule_55 : decode cX2_sendMule 55 = .ok (.putfield 122, 3) := by decide +kernel
theorem dX2_sendMule_58 : decode cX2_sendMule 58 = .ok (.aload_n 0, 1) := by decide +kernel
theorem dX2_sendMule_59 : decode cX2_sendMule 59 = .ok (.getfield 33, 3) := by decide +kernel
theorem dX2_sendMule_62 : decode cX2_sendMule 62 = .ok (.dup, 1) := by decide +kernel
theorem dX2_sendMule_63 : decode cX2_sendMule 63 = .ok (.getfield 105, 3) := by decide +kernel
theorem dX2_sendMule_66 : decode cX2_sendMule 66 = .ok (.iload_n 2, 1) := by decide +kernel
theorem dX2_sendMule_67 : decode cX2_sendMule 67 = .ok (.aload_n 0, 1) := by decide +kernel
theorem dX2_sendMule_68 : decode cX2_sendMule 68 = .ok (.getfield 40, 3) := by decide +kernel
theorem dX2_sendMule_71 : decode cX2_sendMule 71 = .ok (.getfield 108, 3) := by decide +kernel
theorem dX2_sendMule_74 : decode cX2_sendMule 74 = .ok (.imul, 1) := by decide +kernel
theorem dX2_sendMule_75 : decode cX2_sendMule 75 = .ok (.iadd, 1) := by decide +kernel
theorem dX2_sendMule_76 : decode cX2_sendMule 76 = .ok (.putfield 105, 3) := by decide +kernel
theorem dX2_sendMule_79 : decode cX2_sendMule 79 = .ok (.aload_n 0, 1) := by decide +kernel
theorem dX2_sendMule_80 : decode cX2_sendMule 80 = .ok (.getfield 33, 3) := by decide +kernel
theorem dX2_sendMule_83 : decode cX2_sendMule 83 = .ok (.getfield 105, 3) := by decide +kernel
theorem dX2_sendMule_86 : decode cX2_sendMule 86 = .ok (.ireturn, 1) := by decide +kernel
theorem dX2_restMule_0 : decode cX2_restMule 0 = .ok (.aload_n 0, 1) := by decide +kernel
theorem dX2_restMule_1 : decode cX2_restMule 1 = .ok (.iload_n 1, 1) := by decide +kernel
theorem dX2_restMule_2 : decode cX2_restMule 2 = .ok (.invokevirtual 72, 3) := by decide +kernel
theorem dX2_restMule_5 : decode cX2_restMule 5 = .ok (.astore_n 2, 1) := by decide +kernel
theorem dX2_restMule_6 : decode cX2_restMule 6 = .ok (.aload_n 2, 1) := by decide +kernel
theorem dX2_restMule_7 : decode cX2_restMule 7 = .ok (.ifnonnull 6, 3) := by decide +kernel
theorem dX2_restMule_10 : decode cX2_restMule 10 = .ok (.ldc 93, 2) := by decide +kernel
theorem dX2_restMule_12 : decode cX2_restMule 12 = .ok (.ireturn, 1) := by decide +kernel
theorem dX2_restMule_13 : decode cX2_restMule 13 = .ok (.aload_n 2, 1) := by decide +kernel
theorem dX2_restMule_14 : decode cX2_restMule 14 = .ok (.getfield 99, 3) := by decide +kernel
theorem dX2_restMule_17 : decode cX2_restMule 17 = .ok (.ifCond .eq 6, 3) := by decide +kernel
theorem dX2_restMule_20 : decode cX2_restMule 20 = .ok (.ldc 118, 2) := by decide +kernel
theorem dX2_restMule_22 : decode cX2_restMule 22 = .ok (.ireturn, 1) := by decide +kernel
theorem dX2_restMule_23 : decode cX2_restMule 23 = .ok (.aload_n 2, 1) := by decide +kernel
theorem dX2_restMule_24 : decode cX2_restMule 24 = .ok (.getfield 125, 3) := by decide +kernel
theorem dX2_restMule_27 : decode cX2_restMule 27 = .ok (.istore_n 3, 1) := by decide +kernel
theorem dX2_restMule_28 : decode cX2_restMule 28 = .ok (.aload_n 2, 1) := by decide +kernel
theorem dX2_restMule_29 : decode cX2_restMule 29 = .ok (.iconst 0, 1) := by decide +kernel
theorem dX2_restMule_30 : decode cX2_restMule 30 = .ok (.putfield 125, 3) := by decide +kernel
theorem dX2_restMule_33 : decode cX2_restMule 33 = .ok (.iload_n 3, 1) := by decide +kernel
theorem dX2_restMule_34 : decode cX2_restMule 34 = .ok (.ireturn, 1) := by decide +kernel
theorem dX2_payBaker_0 : decode cX2_payBaker 0 = .ok (.iload_n 1, 1) := by decide +kernel
theorem dX2_payBaker_1 : decode cX2_payBaker 1 = .ok (.iconst 1, 1) := by decide +kernel
theorem dX2_payBaker_2 : decode cX2_payBaker 2 = .ok (.sipush 500, 3) := by decide +kernel
theorem dX2_payBaker_5 : decode cX2_payBaker 5 = .ok (.invokestatic 89, 3) := by decide +kernel
theorem dX2_payBaker_8 : decode cX2_payBaker 8 = .ok (.ifCond .ne 6, 3) := by decide +kernel
theorem dX2_payBaker_11 : decode cX2_payBaker 11 = .ok (.ldc 93, 2) := by decide +kernel
theorem dX2_payBaker_13 : decode cX2_payBaker 13 = .ok (.ireturn, 1) := by decide +kernel
theorem dX2_payBaker_14 : decode cX2_payBaker 14 = .ok (.aload_n 0, 1) := by decide +kernel
theorem dX2_payBaker_15 : decode cX2_payBaker 15 = .ok (.getfield 33, 3) := by decide +kernel
theorem dX2_payBaker_18 : decode cX2_payBaker 18 = .ok (.getfield 128, 3) := by decide +kernel
theorem dX2_payBaker_21 : decode cX2_payBaker 21 = .ok (.iload_n 1, 1) := by decide +kernel
theorem dX2_payBaker_22 : decode cX2_payBaker 22 = .ok (.if_icmp .lt 14, 3) := by decide +kernel
theorem dX2_payBaker_25 : decode cX2_payBaker 25 = .ok (.aload_n 0, 1) := by decide +kernel
theorem dX2_payBaker_26 : decode cX2_payBaker 26 = .ok (.getfield 33, 3) := by decide +kernel
theorem dX2_payBaker_29 : decode cX2_payBaker 29 = .ok (.getfield 105, 3) := by decide +kernel
theorem dX2_payBaker_32 : decode cX2_payBaker 32 = .ok (.iload_n 1, 1) := by decide +kernel
theorem dX2_payBaker_33 : decode cX2_payBaker 33 = .ok (.if_icmp .ge 6, 3) := by decide +kernel
theorem dX2_payBaker_36 : decode cX2_payBaker 36 = .ok (.ldc 118, 2) := by decide +kernel
theorem dX2_payBaker_38 : decode cX2_payBaker 38 = .ok (.ireturn, 1) := by decide +kernel
theorem dX2_payBaker_39 : decode cX2_payBaker 39 = .ok (.aload_n 0, 1) := by decide +kernel
theorem dX2_payBaker_40 : decode cX2_payBaker 40 = .ok (.getfield 33, 3) := by decide +kernel
theorem dX2_payBaker_43 : decode cX2_payBaker 43 = .ok (.dup, 1) := by decide +kernel
theorem dX2_payBaker_44 : decode cX2_payBaker 44 = .ok (.getfield 128, 3) := by decide +kernel
theorem dX2_payBaker_47 : decode cX2_payBaker 47 = .ok (.iload_n 1, 1) := by decide +kernel
theorem dX2_payBaker_48 : decode cX2_payBaker 48 = .ok (.isub, 1) := by decide +kernel
theorem dX2_payBaker_49 : decode cX2_payBaker 49 = .ok (.putfield 128, 3) := by decide +kernel
theorem dX2_payBaker_52 : decode cX2_payBaker 52 = .ok (.aload_n 0, 1) := by decide +kernel
theorem dX2_payBaker_53 : decode cX2_payBaker 53 = .ok (.getfield 33, 3) := by decide +kernel
theorem dX2_payBaker_56 : decode cX2_payBaker 56 = .ok (.dup, 1) := by decide +kernel
theorem dX2_payBaker_57 : decode cX2_payBaker 57 = .ok (.getfield 105, 3) := by decide +kernel
theorem dX2_payBaker_60 : decode cX2_payBaker 60 = .ok (.iload_n 1, 1) := by decide +kernel
theorem dX2_payBaker_61 : decode cX2_payBaker 61 = .ok (.isub, 1) := by decide +kernel
theorem dX2_payBaker_62 : decode cX2_payBaker 62 = .ok (.putfield 105, 3) := by decide +kernel
theorem dX2_payBaker_65 : decode cX2_payBaker 65 = .ok (.aload_n 0, 1) := by decide +kernel
theorem dX2_payBaker_66 : decode cX2_payBaker 66 = .ok (.getfield 33, 3) := by decide +kernel
theorem dX2_payBaker_69 : decode cX2_payBaker 69 = .ok (.dup, 1) := by decide +kernel
theorem dX2_payBaker_70 : decode cX2_payBaker 70 = .ok (.getfield 131, 3) := by decide +kernel
theorem dX2_payBaker_73 : decode cX2_payBaker 73 = .ok (.iload_n 1, 1) := by decide +kernel
theorem dX2_payBaker_74 : decode cX2_payBaker 74 = .ok (.iadd, 1) := by decide +kernel
theorem dX2_payBaker_75 : decode cX2_payBaker 75 = .ok (.putfield 131, 3) := by decide +kernel
theorem dX2_payBaker_78 : decode cX2_payBaker 78 = .ok (.aload_n 0, 1) := by decide +kernel
theorem dX2_payBaker_79 : decode cX2_payBaker 79 = .ok (.getfield 33, 3) := by decide +kernel
theorem dX2_payBaker_82 : decode cX2_payBaker 82 = .ok (.getfield 105, 3) := by decide +kernel
theorem dX2_payBaker_85 : decode cX2_payBaker 85 = .ok (.ireturn, 1) := by decide +kernel
theorem dX2_bookGroup_0 : decode cX2_bookGroup 0 = .ok (.iload_n 1, 1) := by decide +kernel
theorem dX2_bookGroup_1 : decode cX2_bookGroup 1 = .ok (.iconst 1, 1) := by decide +kernel
theorem dX2_bookGroup_2 : decode cX2_bookGroup 2 = .ok (.bipush 12, 2) := by decide +kernel
theorem dX2_bookGroup_4 : decode cX2_bookGroup 4 = .ok (.invokestatic 89, 3) := by decide +kernel
theorem dX2_bookGroup_7 : decode cX2_bookGroup 7 = .ok (.ifCond .eq 23, 3) := by decide +kernel
theorem dX2_bookGroup_10 : decode cX2_bookGroup 10 = .ok (.iload_n 2, 1) := by decide +kernel
theorem dX2_bookGroup_11 : decode cX2_bookGroup 11 = .ok (.iconst 0, 1) := by decide +kernel
theorem dX2_bookGroup_12 : decode cX2_bookGroup 12 = .ok (.bipush 60, 2) := by decide +kernel
theorem dX2_bookGroup_14 : decode cX2_bookGroup 14 = .ok (.invokestatic 89, 3) := by decide +kernel
theorem dX2_bookGroup_17 : decode cX2_bookGroup 17 = .ok (.ifCond .eq 13, 3) := by decide +kernel
theorem dX2_bookGroup_20 : decode cX2_bookGroup 20 = .ok (.iload_n 3, 1) := by decide +kernel
theorem dX2_bookGroup_21 : decode cX2_bookGroup 21 = .ok (.iconst 1, 1) := by decide +kernel
theorem dX2_bookGroup_22 : decode cX2_bookGroup 22 = .ok (.bipush 9, 2) := by decide +kernel
theorem dX2_bookGroup_24 : decode cX2_bookGroup 24 = .ok (.invokestatic 89, 3) := by decide +kernel
theorem dX2_bookGroup_27 : decode cX2_bookGroup 27 = .ok (.ifCond .ne 6, 3) := by decide +kernel
theorem dX2_bookGroup_30 : decode cX2_bookGroup 30 = .ok (.ldc 93, 2) := by decide +kernel
theorem dX2_bookGroup_32 : decode cX2_bookGroup 32 = .ok (.ireturn, 1) := by decide +kernel
theorem dX2_bookGroup_33 : decode cX2_bookGroup 33 = .ok (.aload_n 0, 1) := by decide +kernel
theorem dX2_bookGroup_34 : decode cX2_bookGroup 34 = .ok (.getfield 53, 3) := by decide +kernel
theorem dX2_bookGroup_37 : decode cX2_bookGroup 37 = .ok (.bipush 10, 2) := by decide +kernel
theorem dX2_bookGroup_39 : decode cX2_bookGroup 39 = .ok (.if_icmp .lt 6, 3) := by decide +kernel
theorem dX2_bookGroup_42 : decode cX2_bookGroup 42 = .ok (.ldc 94, 2) := by decide +kernel
theorem dX2_bookGroup_44 : decode cX2_bookGroup 44 = .ok (.ireturn, 1) := by decide +kernel
theorem dX2_bookGroup_45 : decode cX2_bookGroup 45 = .ok (.aload_n 0, 1) := by decide +kernel
theorem dX2_bookGroup_46 : decode cX2_bookGroup 46 = .ok (.dup, 1) := by decide +kernel
theorem dX2_bookGroup_47 : decode cX2_bookGroup 47 = .ok (.getfield 53, 3) := by decide +kernel
theorem dX2_bookGroup_50 : decode cX2_bookGroup 50 = .ok (.iconst 1, 1) := by decide +kernel
theorem dX2_bookGroup_51 : decode cX2_bookGroup 51 = .ok (.iadd, 1) := by decide +kernel
theorem dX2_bookGroup_52 : decode cX2_bookGroup 52 = .ok (.putfield 53, 3) := by decide +kernel
theorem dX2_bookGroup_55 : decode cX2_bookGroup 55 = .ok (.aload_n 0, 1) := by decide +kernel
theorem dX2_bookGroup_56 : decode cX2_bookGroup 56 = .ok (.aload_n 0, 1) := by decide +kernel
theorem dX2_bookGroup_57 : decode cX2_bookGroup 57 = .ok (.getfield 53, 3) := by decide +kernel
theorem dX2_bookGroup_60 : decode cX2_bookGroup 60 = .ok (.iconst 1, 1) := by decide +kernel
theorem dX2_bookGroup_61 : decode cX2_bookGroup 61 = .ok (.isub, 1) := by decide +kernel
theorem dX2_bookGroup_62 : decode cX2_bookGroup 62 = .ok (.invokevirtual 79, 3) := by decide +kernel
theorem dX2_bookGroup_65 : decode cX2_bookGroup 65 = .ok (.astore 4, 2) := by decide +kernel
theorem dX2_bookGroup_67 : decode cX2_bookGroup 67 = .ok (.aload_n 0, 1) := by decide +kernel
theorem dX2_bookGroup_68 : decode cX2_bookGroup 68 = .ok (.getfield 56, 3) := by decide +kernel
theorem dX2_bookGroup_71 : decode cX2_bookGroup 71 = .ok (.istore 5, 2) := by decide +kernel
theorem dX2_bookGroup_73 : decode cX2_bookGroup 73 = .ok (.aload_n 0, 1) := by decide +kernel
theorem dX2_bookGroup_74 : decode cX2_bookGroup 74 = .ok (.dup, 1) := by decide +kernel
theorem dX2_bookGroup_75 : decode cX2_bookGroup 75 = .ok (.getfield 56, 3) := by decide +kernel
theorem dX2_bookGroup_78 : decode cX2_bookGroup 78 = .ok (.iconst 1, 1) := by decide +kernel
theorem dX2_bookGroup_79 : decode cX2_bookGroup 79 = .ok (.iadd, 1) := by decide +kernel
theorem dX2_bookGroup_80 : decode cX2_bookGroup 80 = .ok (.putfield 56, 3) := by decide +kernel
theorem dX2_bookGroup_83 : decode cX2_bookGroup 83 = .ok (.aload 4, 2) := by decide +kernel
theorem dX2_bookGroup_85 : decode cX2_bookGroup 85 = .ok (.ifnull 18, 3) := by decide +kernel
theorem dX2_bookGroup_88 : decode cX2_bookGroup 88 = .ok (.aload 4, 2) := by decide +kernel
theorem dX2_bookGroup_90 : decode cX2_bookGroup 90 = .ok (.iload 5, 2) := by decide +kernel
theorem dX2_bookGroup_92 : decode cX2_bookGroup 92 = .ok (.iload_n 1, 1) := by decide +kernel
theorem dX2_bookGroup_93 : decode cX2_bookGroup 93 = .ok (.aload_n 0, 1) := by decide +kernel
theorem dX2_bookGroup_94 : decode cX2_bookGroup 94 = .ok (.getfield 59, 3) := by decide +kernel
theorem dX2_bookGroup_97 : decode cX2_bookGroup 97 = .ok (.iload_n 2, 1) := by decide +kernel
theorem dX2_bookGroup_98 : decode cX2_bookGroup 98 = .ok (.iadd, 1) := by decide +kernel
theorem dX2_bookGroup_99 : decode cX2_bookGroup 99 = .ok (.iload_n 3, 1) := by decide +kernel
theorem dX2_bookGroup_100 : decode cX2_bookGroup 100 = .ok (.invokevirtual 134, 3) := by decide +kernel
theorem dX2_bookGroup_103 : decode cX2_bookGroup 103 = .ok (.iload 5, 2) := by decide +kernel
theorem dX2_bookGroup_105 : decode cX2_bookGroup 105 = .ok (.ireturn, 1) := by decide +kernel
theorem dX2_callOff_0 : decode cX2_callOff 0 = .ok (.aload_n 0, 1) := by decide +kernel
theorem dX2_callOff_1 : decode cX2_callOff 1 = .ok (.iload_n 1, 1) := by decide +kernel
theorem dX2_callOff_2 : decode cX2_callOff 2 = .ok (.invokevirtual 137, 3) := by decide +kernel
theorem dX2_callOff_5 : decode cX2_callOff 5 = .ok (.istore_n 2, 1) := by decide +kernel
theorem dX2_callOff_6 : decode cX2_callOff 6 = .ok (.iload_n 2, 1) := by decide +kernel
theorem dX2_callOff_7 : decode cX2_callOff 7 = .ok (.ifCond .ge 6, 3) := by decide +kernel
theorem dX2_callOff_10 : decode cX2_callOff 10 = .ok (.ldc 93, 2) := by decide +kernel
theorem dX2_callOff_12 : decode cX2_callOff 12 = .ok (.ireturn, 1) := by decide +kernel
theorem dX2_callOff_13 : decode cX2_callOff 13 = .ok (.aload_n 0, 1) := by decide +kernel
theorem dX2_callOff_14 : decode cX2_callOff 14 = .ok (.iload_n 2, 1) := by decide +kernel
theorem dX2_callOff_15 : decode cX2_callOff 15 = .ok (.invokevirtual 141, 3) := by decide +kernel
theorem dX2_callOff_18 : decode cX2_callOff 18 = .ok (.aload_n 0, 1) := by decide +kernel
theorem dX2_callOff_19 : decode cX2_callOff 19 = .ok (.getfield 53, 3) := by decide +kernel
theorem dX2_callOff_22 : decode cX2_callOff 22 = .ok (.ireturn, 1) := by decide +kernel
theorem dX2_removeGroup_0 : decode cX2_removeGroup 0 = .ok (.iconst 1, 1) := by decide +kernel
theorem dX2_removeGroup_1 : decode cX2_removeGroup 1 = .ok (.istore_n 2, 1) := by decide +kernel
theorem dX2_removeGroup_2 : decode cX2_removeGroup 2 = .ok (.iload_n 2, 1) := by decide +kernel
theorem dX2_removeGroup_3 : decode cX2_removeGroup 3 = .ok (.aload_n 0, 1) := by decide +kernel
theorem dX2_removeGroup_4 : decode cX2_removeGroup 4 = .ok (.getfield 19, 3) := by decide +kernel
theorem dX2_removeGroup_7 : decode cX2_removeGroup 7 = .ok (.arraylength, 1) := by decide +kernel
theorem dX2_removeGroup_8 : decode cX2_removeGroup 8 = .ok (.if_icmp .ge 44, 3) := by decide +kernel
theorem dX2_removeGroup_11 : decode cX2_removeGroup 11 = .ok (.iload_n 2, 1) := by decide +kernel
theorem dX2_removeGroup_12 : decode cX2_removeGroup 12 = .ok (.iload_n 1, 1) := by decide +kernel
theorem dX2_removeGroup_13 : decode cX2_removeGroup 13 = .ok (.if_icmp .le 33, 3) := by decide +kernel
theorem dX2_removeGroup_16 : decode cX2_removeGroup 16 = .ok (.aload_n 0, 1) := by decide +kernel
theorem dX2_removeGroup_17 : decode cX2_removeGroup 17 = .ok (.getfield 19, 3) := by decide +kernel
theorem dX2_removeGroup_20 : decode cX2_removeGroup 20 = .ok (.iload_n 2, 1) := by decide +kernel
theorem dX2_removeGroup_21 : decode cX2_removeGroup 21 = .ok (.aaload, 1) := by decide +kernel
theorem dX2_removeGroup_22 : decode cX2_removeGroup 22 = .ok (.astore_n 3, 1) := by decide +kernel
theorem dX2_removeGroup_23 : decode cX2_removeGroup 23 = .ok (.aload_n 0, 1) := by decide +kernel
theorem dX2_removeGroup_24 : decode cX2_removeGroup 24 = .ok (.getfield 19, 3) := by decide +kernel
theorem dX2_removeGroup_27 : decode cX2_removeGroup 27 = .ok (.iload_n 2, 1) := by decide +kernel
theorem dX2_removeGroup_28 : decode cX2_removeGroup 28 = .ok (.aload_n 0, 1) := by decide +kernel
theorem dX2_removeGroup_29 : decode cX2_removeGroup 29 = .ok (.getfield 19, 3) := by decide +kernel
theorem dX2_removeGroup_32 : decode cX2_removeGroup 32 = .ok (.iload_n 2, 1) := by decide +kernel
theorem dX2_removeGroup_33 : decode cX2_removeGroup 33 = .ok (.iconst 1, 1) := by decide +kernel
theorem dX2_removeGroup_34 : decode cX2_removeGroup 34 = .ok (.isub, 1) := by decide +kernel
theorem dX2_removeGroup_35 : decode cX2_removeGroup 35 = .ok (.aaload, 1) := by decide +kernel
theorem dX2_removeGroup_36 : decode cX2_removeGroup 36 = .ok (.aastore, 1) := by decide +kernel
theorem dX2_removeGroup_37 : decode cX2_removeGroup 37 = .ok (.aload_n 0, 1) := by decide +kernel
theorem dX2_removeGroup_38 : decode cX2_removeGroup 38 = .ok (.getfield 19, 3) := by decide +kernel
theorem dX2_removeGroup_41 : decode cX2_removeGroup 41 = .ok (.iload_n 2, 1) := by decide +kernel
theorem dX2_removeGroup_42 : decode cX2_removeGroup 42 = .ok (.iconst 1, 1) := by decide +kernel
theorem dX2_removeGroup_43 : decode cX2_removeGroup 43 = .ok (.isub, 1) := by decide +kernel
theorem dX2_removeGroup_44 : decode cX2_removeGroup 44 = .ok (.aload_n 3, 1) := by decide +kernel
theorem dX2_removeGroup_45 : decode cX2_removeGroup 45 = .ok (.aastore, 1) := by decide +kernel
theorem dX2_removeGroup_46 : decode cX2_removeGroup 46 = .ok (.iinc 2 1, 3) := by decide +kernel
theorem dX2_removeGroup_49 : decode cX2_removeGroup 49 = .ok (.goto (-47), 3) := by decide +kernel
theorem dX2_removeGroup_52 : decode cX2_removeGroup 52 = .ok (.aload_n 0, 1) := by decide +kernel
theorem dX2_removeGroup_53 : decode cX2_removeGroup 53 = .ok (.dup, 1) := by decide +kernel
theorem dX2_removeGroup_54 : decode cX2_removeGroup 54 = .ok (.getfield 53, 3) := by decide +kernel
theorem dX2_removeGroup_57 : decode cX2_removeGroup 57 = .ok (.iconst 1, 1) := by decide +kernel
theorem dX2_removeGroup_58 : decode cX2_removeGroup 58 = .ok (.isub, 1) := by decide +kernel
theorem dX2_removeGroup_59 : decode cX2_removeGroup 59 = .ok (.putfield 53, 3) := by decide +kernel
theorem dX2_removeGroup_62 : decode cX2_removeGroup 62 = .ok (.return_, 1) := by decide +kernel
theorem dX2_endDays_0 : decode cX2_endDays 0 = .ok (.iload_n 1, 1) := by decide +kernel
theorem dX2_endDays_1 : decode cX2_endDays 1 = .ok (.iconst 1, 1) := by decide +kernel
theorem dX2_endDays_2 : decode cX2_endDays 2 = .ok (.bipush 60, 2) := by decide +kernel
theorem dX2_endDays_4 : decode cX2_endDays 4 = .ok (.invokestatic 89, 3) := by decide +kernel
theorem dX2_endDays_7 : decode cX2_endDays 7 = .ok (.ifCond .ne 6, 3) := by decide +kernel
theorem dX2_endDays_10 : decode cX2_endDays 10 = .ok (.ldc 93, 2) := by decide +kernel
theorem dX2_endDays_12 : decode cX2_endDays 12 = .ok (.ireturn, 1) := by decide +kernel
theorem dX2_endDays_13 : decode cX2_endDays 13 = .ok (.aload_n 0, 1) := by decide +kernel
theorem dX2_endDays_14 : decode cX2_endDays 14 = .ok (.getfield 59, 3) := by decide +kernel
theorem dX2_endDays_17 : decode cX2_endDays 17 = .ok (.iload_n 1, 1) := by decide +kernel
theorem dX2_endDays_18 : decode cX2_endDays 18 = .ok (.iadd, 1) := by decide +kernel
theorem dX2_endDays_19 : decode cX2_endDays 19 = .ok (.sipush 9999, 3) := by decide +kernel
theorem dX2_endDays_22 : decode cX2_endDays 22 = .ok (.if_icmp .le 6, 3) := by decide +kernel
theorem dX2_endDays_25 : decode cX2_endDays 25 = .ok (.ldc 94, 2) := by decide +kernel
theorem dX2_endDays_27 : decode cX2_endDays 27 = .ok (.ireturn, 1) := by decide +kernel
theorem dX2_endDays_28 : decode cX2_endDays 28 = .ok (.aload_n 0, 1) := by decide +kernel
theorem dX2_endDays_29 : decode cX2_endDays 29 = .ok (.getfield 33, 3) := by decide +kernel
theorem dX2_endDays_32 : decode cX2_endDays 32 = .ok (.getfield 145, 3) := by decide +kernel
theorem dX2_endDays_35 : decode cX2_endDays 35 = .ok (.istore_n 2, 1) := by decide +kernel
theorem dX2_endDays_36 : decode cX2_endDays 36 = .ok (.iconst 0, 1) := by decide +kernel
theorem dX2_endDays_37 : decode cX2_endDays 37 = .ok (.istore_n 3, 1) := by decide +kernel
theorem dX2_endDays_38 : decode cX2_endDays 38 = .ok (.iload_n 3, 1) := by decide +kernel
theorem dX2_endDays_39 : decode cX2_endDays 39 = .ok (.iload_n 1, 1) := by decide +kernel
theorem dX2_endDays_40 : decode cX2_endDays 40 = .ok (.if_icmp .ge 13, 3) := by decide +kernel
theorem dX2_endDays_43 : decode cX2_endDays 43 = .ok (.aload_n 0, 1) := by decide +kernel
theorem dX2_endDays_44 : decode cX2_endDays 44 = .ok (.invokevirtual 148, 3) := by decide +kernel
theorem dX2_endDays_47 : decode cX2_endDays 47 = .ok (.iinc 3 1, 3) := by decide +kernel
theorem dX2_endDays_50 : decode cX2_endDays 50 = .ok (.goto (-12), 3) := by decide +kernel
theorem dX2_endDays_53 : decode cX2_endDays 53 = .ok (.aload_n 0, 1) := by decide +kernel
theorem dX2_endDays_54 : decode cX2_endDays 54 = .ok (.getfield 33, 3) := by decide +kernel
theorem dX2_endDays_57 : decode cX2_endDays 57 = .ok (.getfield 145, 3) := by decide +kernel
theorem dX2_endDays_60 : decode cX2_endDays 60 = .ok (.iload_n 2, 1) := by decide +kernel
theorem dX2_endDays_61 : decode cX2_endDays 61 = .ok (.isub, 1) := by decide +kernel
theorem dX2_endDays_62 : decode cX2_endDays 62 = .ok (.ireturn, 1) := by decide +kernel
theorem dX2_endDay_0 : decode cX2_endDay 0 = .ok (.aload_n 0, 1) := by decide +kernel
theorem dX2_endDay_1 : decode cX2_endDay 1 = .ok (.aload_n 0, 1) := by decide +kernel
theorem dX2_endDay_2 : decode cX2_endDay 2 = .ok (.getfield 44, 3) := by decide +kernel
theorem dX2_endDay_5 : decode cX2_endDay 5 = .ok (.sipush 421, 3) := by decide +kernel
theorem dX2_endDay_8 : decode cX2_endDay 8 = .ok (.imul, 1) := by decide +kernel
theorem dX2_endDay_9 : decode cX2_endDay 9 = .ok (.sipush 1663, 3) := by decide +kernel
theorem dX2_endDay_12 : decode cX2_endDay 12 = .ok (.iadd, 1) := by decide +kernel
theorem dX2_endDay_13 : decode cX2_endDay 13 = .ok (.sipush 10000, 3) := by decide +kernel
theorem dX2_endDay_16 : decode cX2_endDay 16 = .ok (.irem, 1) := by decide +kernel
theorem dX2_endDay_17 : decode cX2_endDay 17 = .ok (.putfield 44, 3) := by decide +kernel
theorem dX2_endDay_20 : decode cX2_endDay 20 = .ok (.aload_n 0, 1) := by decide +kernel
theorem dX2_endDay_21 : decode cX2_endDay 21 = .ok (.getfield 44, 3) := by decide +kernel
theorem dX2_endDay_24 : decode cX2_endDay 24 = .ok (.bipush 100, 2) := by decide +kernel
theorem dX2_endDay_26 : decode cX2_endDay 26 = .ok (.irem, 1) := by decide +kernel
theorem dX2_endDay_27 : decode cX2_endDay 27 = .ok (.aload_n 0, 1) := by decide +kernel
theorem dX2_endDay_28 : decode cX2_endDay 28 = .ok (.getfield 40, 3) := by decide +kernel
theorem dX2_endDay_31 : decode cX2_endDay 31 = .ok (.getfield 151, 3) := by decide +kernel
theorem dX2_endDay_34 : decode cX2_endDay 34 = .ok (.if_icmp .ge 7, 3) := by decide +kernel
theorem dX2_endDay_37 : decode cX2_endDay 37 = .ok (.iconst 1, 1) := by decide +kernel
theorem dX2_endDay_38 : decode cX2_endDay 38 = .ok (.goto 4, 3) := by decide +kernel
theorem dX2_endDay_41 : decode cX2_endDay 41 = .ok (.iconst 0, 1) := by decide +kernel
theorem dX2_endDay_42 : decode cX2_endDay 42 = .ok (.istore_n 1, 1) := by decide +kernel
theorem dX2_endDay_43 : decode cX2_endDay 43 = .ok (.iload_n 1, 1) := by decide +kernel
theorem dX2_endDay_44 : decode cX2_endDay 44 = .ok (.ifCond .eq 16, 3) := by decide +kernel
theorem dX2_endDay_47 : decode cX2_endDay 47 = .ok (.aload_n 0, 1) := by decide +kernel
theorem dX2_endDay_48 : decode cX2_endDay 48 = .ok (.getfield 33, 3) := by decide +kernel
theorem dX2_endDay_51 : decode cX2_endDay 51 = .ok (.dup, 1) := by decide +kernel
theorem dX2_endDay_52 : decode cX2_endDay 52 = .ok (.getfield 154, 3) := by decide +kernel
theorem dX2_endDay_55 : decode cX2_endDay 55 = .ok (.iconst 1, 1) := by decide +kernel
theorem dX2_endDay_56 : decode cX2_endDay 56 = .ok (.iadd, 1) := by decide +kernel
theorem dX2_endDay_57 : decode cX2_endDay 57 = .ok (.putfield 154, 3) := by decide +kernel
theorem dX2_endDay_60 : decode cX2_endDay 60 = .ok (.iconst 0, 1) := by decide +kernel
theorem dX2_endDay_61 : decode cX2_endDay 61 = .ok (.istore_n 2, 1) := by decide +kernel
theorem dX2_endDay_62 : decode cX2_endDay 62 = .ok (.iload_n 2, 1) := by decide +kernel
theorem dX2_endDay_63 : decode cX2_endDay 63 = .ok (.aload_n 0, 1) := by decide +kernel
theorem dX2_endDay_64 : decode cX2_endDay 64 = .ok (.getfield 50, 3) := by decide +kernel
theorem dX2_endDay_67 : decode cX2_endDay 67 = .ok (.if_icmp .ge 32, 3) := by decide +kernel
theorem dX2_endDay_70 : decode cX2_endDay 70 = .ok (.aload_n 0, 1) := by decide +kernel
theorem dX2_endDay_71 : decode cX2_endDay 71 = .ok (.iload_n 2, 1) := by decide +kernel
theorem dX2_endDay_72 : decode cX2_endDay 72 = .ok (.invokevirtual 72, 3) := by decide +kernel
theorem dX2_endDay_75 : decode cX2_endDay 75 = .ok (.astore_n 3, 1) := by decide +kernel
theorem dX2_endDay_76 : decode cX2_endDay 76 = .ok (.aload_n 3, 1) := by decide +kernel
theorem dX2_endDay_77 : decode cX2_endDay 77 = .ok (.ifnull 16, 3) := by decide +kernel
theorem dX2_endDay_80 : decode cX2_endDay 80 = .ok (.aload_n 3, 1) := by decide +kernel
theorem dX2_endDay_81 : decode cX2_endDay 81 = .ok (.iload_n 1, 1) := by decide +kernel
theorem dX2_endDay_82 : decode cX2_endDay 82 = .ok (.invokevirtual 157, 3) := by decide +kernel
theorem dX2_endDay_85 : decode cX2_endDay 85 = .ok (.ifCond .eq 8, 3) := by decide +kernel
theorem dX2_endDay_88 : decode cX2_endDay 88 = .ok (.aload_n 0, 1) := by decide +kernel
theorem dX2_endDay_89 : decode cX2_endDay 89 = .ok (.aload_n 3, 1) := by decide +kernel
theorem dX2_endDay_90 : decode cX2_endDay 90 = .ok (.invokevirtual 161, 3) := by decide +kernel
theorem dX2_endDay_93 : decode cX2_endDay 93 = .ok (.iinc 2 1, 3) := by decide +kernel
theorem dX2_endDay_96 : decode cX2_endDay 96 = .ok (.goto (-34), 3) := by decide +kernel
theorem dX2_endDay_99 : decode cX2_endDay 99 = .ok (.iconst 0, 1) := by decide +kernel
theorem dX2_endDay_100 : decode cX2_endDay 100 = .ok (.istore_n 2, 1) := by decide +kernel
theorem dX2_endDay_101 : decode cX2_endDay 101 = .ok (.iload_n 2, 1) := by decide +kernel
theorem dX2_endDay_102 : decode cX2_endDay 102 = .ok (.aload_n 0, 1) := by decide +kernel
theorem dX2_endDay_103 : decode cX2_endDay 103 = .ok (.getfield 53, 3) := by decide +kernel
theorem dX2_endDay_106 : decode cX2_endDay 106 = .ok (.if_icmp .ge 35, 3) := by decide +kernel
theorem dX2_endDay_109 : decode cX2_endDay 109 = .ok (.aload_n 0, 1) := by decide +kernel
theorem dX2_endDay_110 : decode cX2_endDay 110 = .ok (.iload_n 2, 1) := by decide +kernel
theorem dX2_endDay_111 : decode cX2_endDay 111 = .ok (.invokevirtual 79, 3) := by decide +kernel
theorem dX2_endDay_114 : decode cX2_endDay 114 = .ok (.astore_n 3, 1) := by decide +kernel
theorem dX2_endDay_115 : decode cX2_endDay 115 = .ok (.aload_n 3, 1) := by decide +kernel
theorem dX2_endDay_116 : decode cX2_endDay 116 = .ok (.ifnull 19, 3) := by decide +kernel
theorem dX2_endDay_119 : decode cX2_endDay 119 = .ok (.aload_n 3, 1) := by decide +kernel
theorem dX2_endDay_120 : decode cX2_endDay 120 = .ok (.aload_n 0, 1) := by decide +kernel
theorem dX2_endDay_121 : decode cX2_endDay 121 = .ok (.getfield 59, 3) := by decide +kernel
theorem dX2_endDay_124 : decode cX2_endDay 124 = .ok (.invokevirtual 164, 3) := by decide +kernel
theorem dX2_endDay_127 : decode cX2_endDay 127 = .ok (.ifCond .eq 8, 3) := by decide +kernel
theorem dX2_endDay_130 : decode cX2_endDay 130 = .ok (.aload_n 0, 1) := by decide +kernel
theorem dX2_endDay_131 : decode cX2_endDay 131 = .ok (.aload_n 3, 1) := by decide +kernel
theorem dX2_endDay_132 : decode cX2_endDay 132 = .ok (.invokevirtual 168, 3) := by decide +kernel
theorem dX2_endDay_135 : decode cX2_endDay 135 = .ok (.iinc 2 1, 3) := by decide +kernel
theorem dX2_endDay_138 : decode cX2_endDay 138 = .ok (.goto (-37), 3) := by decide +kernel
theorem dX2_endDay_141 : decode cX2_endDay 141 = .ok (.aload_n 0, 1) := by decide +kernel
theorem dX2_endDay_142 : decode cX2_endDay 142 = .ok (.getfield 33, 3) := by decide +kernel
theorem dX2_endDay_145 : decode cX2_endDay 145 = .ok (.dup, 1) := by decide +kernel
theorem dX2_endDay_146 : decode cX2_endDay 146 = .ok (.getfield 171, 3) := by decide +kernel
theorem dX2_endDay_149 : decode cX2_endDay 149 = .ok (.aload_n 0, 1) := by decide +kernel
theorem dX2_endDay_150 : decode cX2_endDay 150 = .ok (.getfield 26, 3) := by decide +kernel
theorem dX2_endDay_153 : decode cX2_endDay 153 = .ok (.invokevirtual 174, 3) := by decide +kernel
theorem dX2_endDay_156 : decode cX2_endDay 156 = .ok (.iadd, 1) := by decide +kernel
theorem dX2_endDay_157 : decode cX2_endDay 157 = .ok (.putfield 171, 3) := by decide +kernel
theorem dX2_endDay_160 : decode cX2_endDay 160 = .ok (.aload_n 0, 1) := by decide +kernel
theorem dX2_endDay_161 : decode cX2_endDay 161 = .ok (.dup, 1) := by decide +kernel
theorem dX2_endDay_162 : decode cX2_endDay 162 = .ok (.getfield 59, 3) := by decide +kernel
theorem dX2_endDay_165 : decode cX2_endDay 165 = .ok (.iconst 1, 1) := by decide +kernel
theorem dX2_endDay_166 : decode cX2_endDay 166 = .ok (.iadd, 1) := by decide +kernel
theorem dX2_endDay_167 : decode cX2_endDay 167 = .ok (.putfield 59, 3) := by decide +kernel
theorem dX2_endDay_170 : decode cX2_endDay 170 = .ok (.aload_n 0, 1) := by decide +kernel
theorem dX2_endDay_171 : decode cX2_endDay 171 = .ok (.getfield 53, 3) := by decide +kernel
theorem dX2_endDay_174 : decode cX2_endDay 174 = .ok (.iconst 1, 1) := by decide +kernel
theorem dX2_endDay_175 : decode cX2_endDay 175 = .ok (.isub, 1) := by decide +kernel
theorem dX2_endDay_176 : decode cX2_endDay 176 = .ok (.istore_n 2, 1) := by decide +kernel
theorem dX2_endDay_177 : decode cX2_endDay 177 = .ok (.iload_n 2, 1) := by decide +kernel
theorem dX2_endDay_178 : decode cX2_endDay 178 = .ok (.ifCond .lt 35, 3) := by decide +kernel
theorem dX2_endDay_181 : decode cX2_endDay 181 = .ok (.aload_n 0, 1) := by decide +kernel
theorem dX2_endDay_182 : decode cX2_endDay 182 = .ok (.iload_n 2, 1) := by decide +kernel
theorem dX2_endDay_183 : decode cX2_endDay 183 = .ok (.invokevirtual 79, 3) := by decide +kernel
theorem dX2_endDay_186 : decode cX2_endDay 186 = .ok (.astore_n 3, 1) := by decide +kernel
theorem dX2_endDay_187 : decode cX2_endDay 187 = .ok (.aload_n 3, 1) := by decide +kernel
theorem dX2_endDay_188 : decode cX2_endDay 188 = .ok (.ifnull 19, 3) := by decide +kernel
theorem dX2_endDay_191 : decode cX2_endDay 191 = .ok (.aload_n 3, 1) := by decide +kernel
theorem dX2_endDay_192 : decode cX2_endDay 192 = .ok (.aload_n 0, 1) := by decide +kernel
theorem dX2_endDay_193 : decode cX2_endDay 193 = .ok (.getfield 59, 3) := by decide +kernel
theorem dX2_endDay_196 : decode cX2_endDay 196 = .ok (.invokevirtual 178, 3) := by decide +kernel
theorem dX2_endDay_199 : decode cX2_endDay 199 = .ok (.ifCond .eq 8, 3) := by decide +kernel
theorem dX2_endDay_202 : decode cX2_endDay 202 = .ok (.aload_n 0, 1) := by decide +kernel
theorem dX2_endDay_203 : decode cX2_endDay 203 = .ok (.iload_n 2, 1) := by decide +kernel
theorem dX2_endDay_204 : decode cX2_endDay 204 = .ok (.invokevirtual 141, 3) := by decide +kernel
theorem dX2_endDay_207 : decode cX2_endDay 207 = .ok (.iinc 2 (-1), 3) := by decide +kernel
theorem dX2_endDay_210 : decode cX2_endDay 210 = .ok (.goto (-33), 3) := by decide +kernel
theorem dX2_endDay_213 : decode cX2_endDay 213 = .ok (.return_, 1) := by decide +kernel
theorem dX2_unload_0 : decode cX2_unload 0 = .ok (.aload_n 1, 1) := by decide +kernel
theorem dX2_unload_1 : decode cX2_unload 1 = .ok (.invokevirtual 181, 3) := by decide +kernel
theorem dX2_unload_4 : decode cX2_unload 4 = .ok (.istore_n 2, 1) := by decide +kernel
theorem dX2_unload_5 : decode cX2_unload 5 = .ok (.aload_n 0, 1) := by decide +kernel
theorem dX2_unload_6 : decode cX2_unload 6 = .ok (.getfield 59, 3) := by decide +kernel
theorem dX2_unload_9 : decode cX2_unload 9 = .ok (.aload_n 1, 1) := by decide +kernel
theorem dX2_unload_10 : decode cX2_unload 10 = .ok (.getfield 183, 3) := by decide +kernel
theorem dX2_unload_13 : decode cX2_unload 13 = .ok (.isub, 1) := by decide +kernel
theorem dX2_unload_14 : decode cX2_unload 14 = .ok (.istore_n 3, 1) := by decide +kernel
theorem dX2_unload_15 : decode cX2_unload 15 = .ok (.iload_n 3, 1) := by decide +kernel
theorem dX2_unload_16 : decode cX2_unload 16 = .ok (.bipush 20, 2) := by decide +kernel
theorem dX2_unload_18 : decode cX2_unload 18 = .ok (.if_icmp .le 17, 3) := by decide +kernel
theorem dX2_unload_21 : decode cX2_unload 21 = .ok (.aload_n 0, 1) := by decide +kernel
theorem dX2_unload_22 : decode cX2_unload 22 = .ok (.getfield 33, 3) := by decide +kernel
theorem dX2_unload_25 : decode cX2_unload 25 = .ok (.dup, 1) := by decide +kernel
theorem dX2_unload_26 : decode cX2_unload 26 = .ok (.getfield 171, 3) := by decide +kernel
theorem dX2_unload_29 : decode cX2_unload 29 = .ok (.iload_n 2, 1) := by decide +kernel
theorem dX2_unload_30 : decode cX2_unload 30 = .ok (.iadd, 1) := by decide +kernel
theorem dX2_unload_31 : decode cX2_unload 31 = .ok (.putfield 171, 3) := by decide +kernel
theorem dX2_unload_34 : decode cX2_unload 34 = .ok (.return_, 1) := by decide +kernel
theorem dX2_unload_35 : decode cX2_unload 35 = .ok (.iload_n 2, 1) := by decide +kernel
theorem dX2_unload_36 : decode cX2_unload 36 = .ok (.bipush 80, 2) := by decide +kernel
theorem dX2_unload_38 : decode cX2_unload 38 = .ok (.aload_n 0, 1) := by decide +kernel
theorem dX2_unload_39 : decode cX2_unload 39 = .ok (.getfield 26, 3) := by decide +kernel
theorem dX2_unload_42 : decode cX2_unload 42 = .ok (.iconst 0, 1) := by decide +kernel
theorem dX2_unload_43 : decode cX2_unload 43 = .ok (.bipush 20, 2) := by decide +kernel
theorem dX2_unload_45 : decode cX2_unload 45 = .ok (.invokevirtual 186, 3) := by decide +kernel
theorem dX2_unload_48 : decode cX2_unload 48 = .ok (.isub, 1) := by decide +kernel
theorem dX2_unload_49 : decode cX2_unload 49 = .ok (.invokestatic 189, 3) := by decide +kernel
theorem dX2_unload_52 : decode cX2_unload 52 = .ok (.istore 4, 2) := by decide +kernel
theorem dX2_unload_54 : decode cX2_unload 54 = .ok (.aload_n 0, 1) := by decide +kernel
theorem dX2_unload_55 : decode cX2_unload 55 = .ok (.getfield 26, 3) := by decide +kernel
theorem dX2_unload_58 : decode cX2_unload 58 = .ok (.iload_n 3, 1) := by decide +kernel
theorem dX2_unload_59 : decode cX2_unload 59 = .ok (.iload 4, 2) := by decide +kernel
theorem dX2_unload_61 : decode cX2_unload 61 = .ok (.invokevirtual 194, 3) := by decide +kernel
theorem dX2_unload_64 : decode cX2_unload 64 = .ok (.aload_n 0, 1) := by decide +kernel
theorem dX2_unload_65 : decode cX2_unload 65 = .ok (.getfield 33, 3) := by decide +kernel
theorem dX2_unload_68 : decode cX2_unload 68 = .ok (.dup, 1) := by decide +kernel
theorem dX2_unload_69 : decode cX2_unload 69 = .ok (.getfield 197, 3) := by decide +kernel
theorem dX2_unload_72 : decode cX2_unload 72 = .ok (.iload_n 2, 1) := by decide +kernel
theorem dX2_unload_73 : decode cX2_unload 73 = .ok (.iload 4, 2) := by decide +kernel
theorem dX2_unload_75 : decode cX2_unload 75 = .ok (.isub, 1) := by decide +kernel
theorem dX2_unload_76 : decode cX2_unload 76 = .ok (.iadd, 1) := by decide +kernel
theorem dX2_unload_77 : decode cX2_unload 77 = .ok (.putfield 197, 3) := by decide +kernel
theorem dX2_unload_80 : decode cX2_unload 80 = .ok (.return_, 1) := by decide +kernel
theorem dX2_feed_0 : decode cX2_feed 0 = .ok (.aload_n 1, 1) := by decide +kernel
theorem dX2_feed_1 : decode cX2_feed 1 = .ok (.invokevirtual 200, 3) := by decide +kernel
theorem dX2_feed_4 : decode cX2_feed 4 = .ok (.istore_n 2, 1) := by decide +kernel
theorem dX2_feed_5 : decode cX2_feed 5 = .ok (.aload_n 0, 1) := by decide +kernel
theorem dX2_feed_6 : decode cX2_feed 6 = .ok (.getfield 26, 3) := by decide +kernel
theorem dX2_feed_9 : decode cX2_feed 9 = .ok (.iconst 0, 1) := by decide +kernel
theorem dX2_feed_10 : decode cX2_feed 10 = .ok (.aload_n 0, 1) := by decide +kernel
theorem dX2_feed_11 : decode cX2_feed 11 = .ok (.getfield 40, 3) := by decide +kernel
theorem dX2_feed_14 : decode cX2_feed 14 = .ok (.getfield 203, 3) := by decide +kernel
theorem dX2_feed_17 : decode cX2_feed 17 = .ok (.iload_n 2, 1) := by decide +kernel
theorem dX2_feed_18 : decode cX2_feed 18 = .ok (.invokevirtual 206, 3) := by decide +kernel
theorem dX2_feed_21 : decode cX2_feed 21 = .ok (.istore_n 3, 1) := by decide +kernel
theorem dX2_feed_22 : decode cX2_feed 22 = .ok (.iload_n 2, 1) := by decide +kernel
theorem dX2_feed_23 : decode cX2_feed 23 = .ok (.iload_n 3, 1) := by decide +kernel
theorem dX2_feed_24 : decode cX2_feed 24 = .ok (.isub, 1) := by decide +kernel
theorem dX2_feed_25 : decode cX2_feed 25 = .ok (.istore 4, 2) := by decide +kernel
theorem dX2_feed_27 : decode cX2_feed 27 = .ok (.aload_n 0, 1) := by decide +kernel
theorem dX2_feed_28 : decode cX2_feed 28 = .ok (.getfield 40, 3) := by decide +kernel
theorem dX2_feed_31 : decode cX2_feed 31 = .ok (.getfield 203, 3) := by decide +kernel
theorem dX2_feed_34 : decode cX2_feed 34 = .ok (.iconst 1, 1) := by decide +kernel
theorem dX2_feed_35 : decode cX2_feed 35 = .ok (.iadd, 1) := by decide +kernel
theorem dX2_feed_36 : decode cX2_feed 36 = .ok (.istore 5, 2) := by decide +kernel
theorem dX2_feed_38 : decode cX2_feed 38 = .ok (.iload 4, 2) := by decide +kernel
theorem dX2_feed_40 : decode cX2_feed 40 = .ok (.aload_n 0, 1) := by decide +kernel
theorem dX2_feed_41 : decode cX2_feed 41 = .ok (.getfield 26, 3) := by decide +kernel
theorem dX2_feed_44 : decode cX2_feed 44 = .ok (.iload 5, 2) := by decide +kernel
theorem dX2_feed_46 : decode cX2_feed 46 = .ok (.bipush 20, 2) := by decide +kernel
theorem dX2_feed_48 : decode cX2_feed 48 = .ok (.invokevirtual 186, 3) := by decide +kernel
theorem dX2_feed_51 : decode cX2_feed 51 = .ok (.iconst 2, 1) := by decide +kernel
theorem dX2_feed_52 : decode cX2_feed 52 = .ok (.idiv, 1) := by decide +kernel
theorem dX2_feed_53 : decode cX2_feed 53 = .ok (.invokestatic 189, 3) := by decide +kernel
theorem dX2_feed_56 : decode cX2_feed 56 = .ok (.istore 6, 2) := by decide +kernel
theorem dX2_feed_58 : decode cX2_feed 58 = .ok (.aload_n 0, 1) := by decide +kernel
theorem dX2_feed_59 : decode cX2_feed 59 = .ok (.getfield 33, 3) := by decide +kernel
theorem dX2_feed_62 : decode cX2_feed 62 = .ok (.dup, 1) := by decide +kernel
theorem dX2_feed_63 : decode cX2_feed 63 = .ok (.getfield 145, 3) := by decide +kernel
theorem dX2_feed_66 : decode cX2_feed 66 = .ok (.iload_n 3, 1) := by decide +kernel
theorem dX2_feed_67 : decode cX2_feed 67 = .ok (.aload_n 0, 1) := by decide +kernel
theorem dX2_feed_68 : decode cX2_feed 68 = .ok (.getfield 26, 3) := by decide +kernel
theorem dX2_feed_71 : decode cX2_feed 71 = .ok (.iload 5, 2) := by decide +kernel
theorem dX2_feed_73 : decode cX2_feed 73 = .ok (.bipush 20, 2) := by decide +kernel
theorem dX2_feed_75 : decode cX2_feed 75 = .ok (.iload 6, 2) := by decide +kernel
theorem dX2_feed_77 : decode cX2_feed 77 = .ok (.iconst 2, 1) := by decide +kernel
theorem dX2_feed_78 : decode cX2_feed 78 = .ok (.imul, 1) := by decide +kernel
theorem dX2_feed_79 : decode cX2_feed 79 = .ok (.invokevirtual 206, 3) := by decide +kernel
theorem dX2_feed_82 : decode cX2_feed 82 = .ok (.iadd, 1) := by decide +kernel
theorem dX2_feed_83 : decode cX2_feed 83 = .ok (.iadd, 1) := by decide +kernel
theorem dX2_feed_84 : decode cX2_feed 84 = .ok (.putfield 145, 3) := by decide +kernel
theorem dX2_feed_87 : decode cX2_feed 87 = .ok (.iload 4, 2) := by decide +kernel
theorem dX2_feed_89 : decode cX2_feed 89 = .ok (.ifCond .ne 7, 3) := by decide +kernel
theorem dX2_feed_92 : decode cX2_feed 92 = .ok (.iconst 3, 1) := by decide +kernel
theorem dX2_feed_93 : decode cX2_feed 93 = .ok (.goto 4, 3) := by decide +kernel
theorem dX2_feed_96 : decode cX2_feed 96 = .ok (.iconst 2, 1) := by decide +kernel
theorem dX2_feed_97 : decode cX2_feed 97 = .ok (.istore 7, 2) := by decide +kernel
theorem dX2_feed_99 : decode cX2_feed 99 = .ok (.iload 6, 2) := by decide +kernel
theorem dX2_feed_101 : decode cX2_feed 101 = .ok (.iload 4, 2) := by decide +kernel
theorem dX2_feed_103 : decode cX2_feed 103 = .ok (.if_icmp .ge 29, 3) := by decide +kernel
theorem dX2_feed_106 : decode cX2_feed 106 = .ok (.iconst 1, 1) := by decide +kernel
theorem dX2_feed_107 : decode cX2_feed 107 = .ok (.istore 7, 2) := by decide +kernel
theorem dX2_feed_109 : decode cX2_feed 109 = .ok (.aload_n 1, 1) := by decide +kernel
theorem dX2_feed_110 : decode cX2_feed 110 = .ok (.dup, 1) := by decide +kernel
theorem dX2_feed_111 : decode cX2_feed 111 = .ok (.getfield 210, 3) := by decide +kernel
theorem dX2_feed_114 : decode cX2_feed 114 = .ok (.iconst 1, 1) := by decide +kernel
theorem dX2_feed_115 : decode cX2_feed 115 = .ok (.iadd, 1) := by decide +kernel
theorem dX2_feed_116 : decode cX2_feed 116 = .ok (.putfield 210, 3) := by decide +kernel
theorem dX2_feed_119 : decode cX2_feed 119 = .ok (.aload_n 0, 1) := by decide +kernel
theorem dX2_feed_120 : decode cX2_feed 120 = .ok (.getfield 33, 3) := by decide +kernel
theorem dX2_feed_123 : decode cX2_feed 123 = .ok (.dup, 1) := by decide +kernel
theorem dX2_feed_124 : decode cX2_feed 124 = .ok (.getfield 213, 3) := by decide +kernel
theorem dX2_feed_127 : decode cX2_feed 127 = .ok (.iconst 1, 1) := by decide +kernel
theorem dX2_feed_128 : decode cX2_feed 128 = .ok (.iadd, 1) := by decide +kernel
theorem dX2_feed_129 : decode cX2_feed 129 = .ok (.putfield 213, 3) := by decide +kernel
theorem dX2_feed_132 : decode cX2_feed 132 = .ok (.iload 7, 2) := by decide +kernel
theorem dX2_feed_134 : decode cX2_feed 134 = .ok (.aload_n 1, 1) := by decide +kernel
theorem dX2_feed_135 : decode cX2_feed 135 = .ok (.getfield 214, 3) := by decide +kernel
theorem dX2_feed_138 : decode cX2_feed 138 = .ok (.imul, 1) := by decide +kernel
theorem dX2_feed_139 : decode cX2_feed 139 = .ok (.istore 8, 2) := by decide +kernel
theorem dX2_feed_141 : decode cX2_feed 141 = .ok (.aload_n 1, 1) := by decide +kernel
theorem dX2_feed_142 : decode cX2_feed 142 = .ok (.dup, 1) := by decide +kernel
theorem dX2_feed_143 : decode cX2_feed 143 = .ok (.getfield 217, 3) := by decide +kernel
theorem dX2_feed_146 : decode cX2_feed 146 = .ok (.iload 8, 2) := by decide +kernel
theorem dX2_feed_148 : decode cX2_feed 148 = .ok (.iadd, 1) := by decide +kernel
theorem dX2_feed_149 : decode cX2_feed 149 = .ok (.putfield 217, 3) := by decide +kernel
theorem dX2_feed_152 : decode cX2_feed 152 = .ok (.aload_n 0, 1) := by decide +kernel
theorem dX2_feed_153 : decode cX2_feed 153 = .ok (.getfield 33, 3) := by decide +kernel
theorem dX2_feed_156 : decode cX2_feed 156 = .ok (.dup, 1) := by decide +kernel
theorem dX2_feed_157 : decode cX2_feed 157 = .ok (.getfield 220, 3) := by decide +kernel
theorem dX2_feed_160 : decode cX2_feed 160 = .ok (.iload 8, 2) := by decide +kernel
theorem dX2_feed_162 : decode cX2_feed 162 = .ok (.iadd, 1) := by decide +kernel
theorem dX2_feed_163 : decode cX2_feed 163 = .ok (.putfield 220, 3) := by decide +kernel
theorem dX2_feed_166 : decode cX2_feed 166 = .ok (.aload_n 0, 1) := by decide +kernel
theorem dX2_feed_167 : decode cX2_feed 167 = .ok (.getfield 33, 3) := by decide +kernel
theorem dX2_feed_170 : decode cX2_feed 170 = .ok (.dup, 1) := by decide +kernel
theorem dX2_feed_171 : decode cX2_feed 171 = .ok (.getfield 128, 3) := by decide +kernel
theorem dX2_feed_174 : decode cX2_feed 174 = .ok (.iload 8, 2) := by decide +kernel
theorem dX2_feed_176 : decode cX2_feed 176 = .ok (.iadd, 1) := by decide +kernel
theorem dX2_feed_177 : decode cX2_feed 177 = .ok (.putfield 128, 3) := by decide +kernel
theorem dX2_feed_180 : decode cX2_feed 180 = .ok (.return_, 1) := by decide +kernel
theorem dX2_wantedOn_0 : decode cX2_wantedOn 0 = .ok (.iconst 0, 1) := by decide +kernel
theorem dX2_wantedOn_1 : decode cX2_wantedOn 1 = .ok (.istore_n 2, 1) := by decide +kernel
theorem dX2_wantedOn_2 : decode cX2_wantedOn 2 = .ok (.iconst 0, 1) := by decide +kernel
theorem dX2_wantedOn_3 : decode cX2_wantedOn 3 = .ok (.istore_n 3, 1) := by decide +kernel
theorem dX2_wantedOn_4 : decode cX2_wantedOn 4 = .ok (.iload_n 3, 1) := by decide +kernel
theorem dX2_wantedOn_5 : decode cX2_wantedOn 5 = .ok (.aload_n 0, 1) := by decide +kernel
theorem dX2_wantedOn_6 : decode cX2_wantedOn 6 = .ok (.getfield 53, 3) := by decide +kernel
theorem dX2_wantedOn_9 : decode cX2_wantedOn 9 = .ok (.if_icmp .ge 38, 3) := by decide +kernel
theorem dX2_wantedOn_12 : decode cX2_wantedOn 12 = .ok (.aload_n 0, 1) := by decide +kernel
theorem dX2_wantedOn_13 : decode cX2_wantedOn 13 = .ok (.iload_n 3, 1) := by decide +kernel
theorem dX2_wantedOn_14 : decode cX2_wantedOn 14 = .ok (.invokevirtual 79, 3) := by decide +kernel
theorem dX2_wantedOn_17 : decode cX2_wantedOn 17 = .ok (.astore 4, 2) := by decide +kernel
theorem dX2_wantedOn_19 : decode cX2_wantedOn 19 = .ok (.aload 4, 2) := by decide +kernel
theorem dX2_wantedOn_21 : decode cX2_wantedOn 21 = .ok (.ifnull 20, 3) := by decide +kernel
theorem dX2_wantedOn_24 : decode cX2_wantedOn 24 = .ok (.aload 4, 2) := by decide +kernel
theorem dX2_wantedOn_26 : decode cX2_wantedOn 26 = .ok (.iload_n 1, 1) := by decide +kernel
theorem dX2_wantedOn_27 : decode cX2_wantedOn 27 = .ok (.invokevirtual 164, 3) := by decide +kernel
theorem dX2_wantedOn_30 : decode cX2_wantedOn 30 = .ok (.ifCond .eq 11, 3) := by decide +kernel
theorem dX2_wantedOn_33 : decode cX2_wantedOn 33 = .ok (.iload_n 2, 1) := by decide +kernel
theorem dX2_wantedOn_34 : decode cX2_wantedOn 34 = .ok (.aload 4, 2) := by decide +kernel
theorem dX2_wantedOn_36 : decode cX2_wantedOn 36 = .ok (.invokevirtual 200, 3) := by decide +kernel
theorem dX2_wantedOn_39 : decode cX2_wantedOn 39 = .ok (.iadd, 1) := by decide +kernel
theorem dX2_wantedOn_40 : decode cX2_wantedOn 40 = .ok (.istore_n 2, 1) := by decide +kernel
theorem dX2_wantedOn_41 : decode cX2_wantedOn 41 = .ok (.iinc 3 1, 3) := by decide +kernel
theorem dX2_wantedOn_44 : decode cX2_wantedOn 44 = .ok (.goto (-40), 3) := by decide +kernel
theorem dX2_wantedOn_47 : decode cX2_wantedOn 47 = .ok (.iload_n 2, 1) := by decide +kernel
theorem dX2_wantedOn_48 : decode cX2_wantedOn 48 = .ok (.ireturn, 1) := by decide +kernel
theorem dX2_bestMule_0 : decode cX2_bestMule 0 = .ok (.iconst (-1), 1) := by decide +kernel
theorem dX2_bestMule_1 : decode cX2_bestMule 1 = .ok (.istore_n 1, 1) := by decide +kernel
theorem dX2_bestMule_2 : decode cX2_bestMule 2 = .ok (.aconst_null, 1) := by decide +kernel
theorem dX2_bestMule_3 : decode cX2_bestMule 3 = .ok (.astore_n 2, 1) := by decide +kernel
theorem dX2_bestMule_4 : decode cX2_bestMule 4 = .ok (.iconst 0, 1) := by decide +kernel
theorem dX2_bestMule_5 : decode cX2_bestMule 5 = .ok (.istore_n 3, 1) := by decide +kernel
theorem dX2_bestMule_6 : decode cX2_bestMule 6 = .ok (.iload_n 3, 1) := by decide +kernel
theorem dX2_bestMule_7 : decode cX2_bestMule 7 = .ok (.aload_n 0, 1) := by decide +kernel
theorem dX2_bestMule_8 : decode cX2_bestMule 8 = .ok (.getfield 50, 3) := by decide +kernel
theorem dX2_bestMule_11 : decode cX2_bestMule 11 = .ok (.if_icmp .ge 47, 3) := by decide +kernel
theorem dX2_bestMule_14 : decode cX2_bestMule 14 = .ok (.aload_n 0, 1) := by decide +kernel
theorem dX2_bestMule_15 : decode cX2_bestMule 15 = .ok (.iload_n 3, 1) := by decide +kernel
theorem dX2_bestMule_16 : decode cX2_bestMule 16 = .ok (.invokevirtual 72, 3) := by decide +kernel
theorem dX2_bestMule_19 : decode cX2_bestMule 19 = .ok (.astore 4, 2) := by decide +kernel
theorem dX2_bestMule_21 : decode cX2_bestMule 21 = .ok (.aload 4, 2) := by decide +kernel
theorem dX2_bestMule_23 : decode cX2_bestMule 23 = .ok (.ifnull 29, 3) := by decide +kernel
theorem dX2_bestMule_26 : decode cX2_bestMule 26 = .ok (.aload 4, 2) := by decide +kernel
theorem dX2_bestMule_28 : decode cX2_bestMule 28 = .ok (.getfield 99, 3) := by decide +kernel
theorem dX2_bestMule_31 : decode cX2_bestMule 31 = .ok (.ifCond .ne 21, 3) := by decide +kernel
theorem dX2_bestMule_34 : decode cX2_bestMule 34 = .ok (.aload_n 2, 1) := by decide +kernel
theorem dX2_bestMule_35 : decode cX2_bestMule 35 = .ok (.ifnull 12, 3) := by decide +kernel
theorem dX2_bestMule_38 : decode cX2_bestMule 38 = .ok (.aload 4, 2) := by decide +kernel
theorem dX2_bestMule_40 : decode cX2_bestMule 40 = .ok (.aload_n 2, 1) := by decide +kernel
theorem dX2_bestMule_41 : decode cX2_bestMule 41 = .ok (.invokevirtual 223, 3) := by decide +kernel
theorem dX2_bestMule_44 : decode cX2_bestMule 44 = .ok (.ifCond .eq 8, 3) := by decide +kernel
theorem dX2_bestMule_47 : decode cX2_bestMule 47 = .ok (.iload_n 3, 1) := by decide +kernel
theorem dX2_bestMule_48 : decode cX2_bestMule 48 = .ok (.istore_n 1, 1) := by decide +kernel
theorem dX2_bestMule_49 : decode cX2_bestMule 49 = .ok (.aload 4, 2) := by decide +kernel
theorem dX2_bestMule_51 : decode cX2_bestMule 51 = .ok (.astore_n 2, 1) := by decide +kernel
theorem dX2_bestMule_52 : decode cX2_bestMule 52 = .ok (.iinc 3 1, 3) := by decide +kernel
theorem dX2_bestMule_55 : decode cX2_bestMule 55 = .ok (.goto (-49), 3) := by decide +kernel
theorem dX2_bestMule_58 : decode cX2_bestMule 58 = .ok (.iload_n 1, 1) := by decide +kernel
theorem dX2_bestMule_59 : decode cX2_bestMule 59 = .ok (.ireturn, 1) := by decide +kernel
theorem dX2_loavesOnCredit_0 : decode cX2_loavesOnCredit 0 = .ok (.aload_n 0, 1) := by decide +kernel
theorem dX2_loavesOnCredit_1 : decode cX2_loavesOnCredit 1 = .ok (.getfield 40, 3) := by decide +kernel
theorem dX2_loavesOnCredit_4 : decode cX2_loavesOnCredit 4 = .ok (.getfield 111, 3) := by decide +kernel
theorem dX2_loavesOnCredit_7 : decode cX2_loavesOnCredit 7 = .ok (.aload_n 0, 1) := by decide +kernel
theorem dX2_loavesOnCredit_8 : decode cX2_loavesOnCredit 8 = .ok (.getfield 33, 3) := by decide +kernel
theorem dX2_loavesOnCredit_11 : decode cX2_loavesOnCredit 11 = .ok (.getfield 105, 3) := by decide +kernel
theorem dX2_loavesOnCredit_14 : decode cX2_loavesOnCredit 14 = .ok (.isub, 1) := by decide +kernel
theorem dX2_loavesOnCredit_15 : decode cX2_loavesOnCredit 15 = .ok (.istore_n 1, 1) := by decide +kernel
theorem dX2_loavesOnCredit_16 : decode cX2_loavesOnCredit 16 = .ok (.iload_n 1, 1) := by decide +kernel
theorem dX2_loavesOnCredit_17 : decode cX2_loavesOnCredit 17 = .ok (.ifCond .le 25, 3) := by decide +kernel
theorem dX2_loavesOnCredit_20 : decode cX2_loavesOnCredit 20 = .ok (.aload_n 0, 1) := by decide +kernel
theorem dX2_loavesOnCredit_21 : decode cX2_loavesOnCredit 21 = .ok (.getfield 40, 3) := by decide +kernel
theorem dX2_loavesOnCredit_24 : decode cX2_loavesOnCredit 24 = .ok (.getfield 108, 3) := by decide +kernel
theorem dX2_loavesOnCredit_27 : decode cX2_loavesOnCredit 27 = .ok (.ifCond .le 15, 3) := by decide +kernel
theorem dX2_loavesOnCredit_30 : decode cX2_loavesOnCredit 30 = .ok (.iload_n 1, 1) := by decide +kernel
theorem dX2_loavesOnCredit_31 : decode cX2_loavesOnCredit 31 = .ok (.aload_n 0, 1) := by decide +kernel
theorem dX2_loavesOnCredit_32 : decode cX2_loavesOnCredit 32 = .ok (.getfield 40, 3) := by decide +kernel
theorem dX2_loavesOnCredit_35 : decode cX2_loavesOnCredit 35 = .ok (.getfield 108, 3) := by decide +kernel
theorem dX2_loavesOnCredit_38 : decode cX2_loavesOnCredit 38 = .ok (.idiv, 1) := by decide +kernel
theorem dX2_loavesOnCredit_39 : decode cX2_loavesOnCredit 39 = .ok (.goto 4, 3) := by decide +kernel
theorem dX2_loavesOnCredit_42 : decode cX2_loavesOnCredit 42 = .ok (.iconst 0, 1) := by decide +kernel
theorem dX2_loavesOnCredit_43 : decode cX2_loavesOnCredit 43 = .ok (.ireturn, 1) := by decide +kernel
theorem dX2_loavesOnTheirWayUp_0 : decode cX2_loavesOnTheirWayUp 0 = .ok (.iconst 0, 1) := by decide +kernel
theorem dX2_loavesOnTheirWayUp_1 : decode cX2_loavesOnTheirWayUp 1 = .ok (.istore_n 1, 1) := by decide +kernel
theorem dX2_loavesOnTheirWayUp_2 : decode cX2_loavesOnTheirWayUp 2 = .ok (.iconst 0, 1) := by decide +kernel
theorem dX2_loavesOnTheirWayUp_3 : decode cX2_loavesOnTheirWayUp 3 = .ok (.istore_n 2, 1) := by decide +kernel
theorem dX2_loavesOnTheirWayUp_4 : decode cX2_loavesOnTheirWayUp 4 = .ok (.iload_n 2, 1) := by decide +kernel
theorem dX2_loavesOnTheirWayUp_5 : decode cX2_loavesOnTheirWayUp 5 = .ok (.aload_n 0, 1) := by decide +kernel
theorem dX2_loavesOnTheirWayUp_6 : decode cX2_loavesOnTheirWayUp 6 = .ok (.getfield 50, 3) := by decide +kernel
theorem dX2_loavesOnTheirWayUp_9 : decode cX2_loavesOnTheirWayUp 9 = .ok (.if_icmp .ge 26, 3) := by decide +kernel
theorem dX2_loavesOnTheirWayUp_12 : decode cX2_loavesOnTheirWayUp 12 = .ok (.aload_n 0, 1) := by decide +kernel
theorem dX2_loavesOnTheirWayUp_13 : decode cX2_loavesOnTheirWayUp 13 = .ok (.iload_n 2, 1) := by decide +kernel
theorem dX2_loavesOnTheirWayUp_14 : decode cX2_loavesOnTheirWayUp 14 = .ok (.invokevirtual 72, 3) := by decide +kernel
theorem dX2_loavesOnTheirWayUp_17 : decode cX2_loavesOnTheirWayUp 17 = .ok (.astore_n 3, 1) := by decide +kernel
theorem dX2_loavesOnTheirWayUp_18 : decode cX2_loavesOnTheirWayUp 18 = .ok (.aload_n 3, 1) := by decide +kernel
theorem dX2_loavesOnTheirWayUp_19 : decode cX2_loavesOnTheirWayUp 19 = .ok (.ifnull 10, 3) := by decide +kernel
theorem dX2_loavesOnTheirWayUp_22 : decode cX2_loavesOnTheirWayUp 22 = .ok (.iload_n 1, 1) := by decide +kernel
theorem dX2_loavesOnTheirWayUp_23 : decode cX2_loavesOnTheirWayUp 23 = .ok (.aload_n 3, 1) := by decide +kernel
theorem dX2_loavesOnTheirWayUp_24 : decode cX2_loavesOnTheirWayUp 24 = .ok (.getfield 227, 3) := by decide +kernel
theorem dX2_loavesOnTheirWayUp_27 : decode cX2_loavesOnTheirWayUp 27 = .ok (.iadd, 1) := by decide +kernel
theorem dX2_loavesOnTheirWayUp_28 : decode cX2_loavesOnTheirWayUp 28 = .ok (.istore_n 1, 1) := by decide +kernel
theorem dX2_loavesOnTheirWayUp_29 : decode cX2_loavesOnTheirWayUp 29 = .ok (.iinc 2 1, 3) := by decide +kernel
theorem dX2_loavesOnTheirWayUp_32 : decode cX2_loavesOnTheirWayUp 32 = .ok (.goto (-28), 3) := by decide +kernel
theorem dX2_loavesOnTheirWayUp_35 : decode cX2_loavesOnTheirWayUp 35 = .ok (.iload_n 1, 1) := by decide +kernel
theorem dX2_loavesOnTheirWayUp_36 : decode cX2_loavesOnTheirWayUp 36 = .ok (.ireturn, 1) := by decide +kernel
theorem dX2_tell_0 : decode cX2_tell 0 = .ok (.iload_n 1, 1) := by decide +kernel
theorem dX2_tell_1 : decode cX2_tell 1 = .ok (.tableswitch 227 0 17 #[87, 92, 97, 102, 107, 112, 120, 128, 139, 158, 163, 171, 179, 187, 195, 203, 211, 219], 87) := by decide +kernel
theorem dX2_tell_88 : decode cX2_tell 88 = .ok (.aload_n 0, 1) := by decide +kernel
theorem dX2_tell_89 : decode cX2_tell 89 = .ok (.getfield 50, 3) := by decide +kernel
theorem dX2_tell_92 : decode cX2_tell 92 = .ok (.ireturn, 1) := by decide +kernel
theorem dX2_tell_93 : decode cX2_tell 93 = .ok (.aload_n 0, 1) := by decide +kernel
theorem dX2_tell_94 : decode cX2_tell 94 = .ok (.getfield 53, 3) := by decide +kernel
theorem dX2_tell_97 : decode cX2_tell 97 = .ok (.ireturn, 1) := by decide +kernel
theorem dX2_tell_98 : decode cX2_tell 98 = .ok (.aload_n 0, 1) := by decide +kernel
theorem dX2_tell_99 : decode cX2_tell 99 = .ok (.getfield 56, 3) := by decide +kernel
theorem dX2_tell_102 : decode cX2_tell 102 = .ok (.ireturn, 1) := by decide +kernel
theorem dX2_tell_103 : decode cX2_tell 103 = .ok (.aload_n 0, 1) := by decide +kernel
theorem dX2_tell_104 : decode cX2_tell 104 = .ok (.getfield 59, 3) := by decide +kernel
theorem dX2_tell_107 : decode cX2_tell 107 = .ok (.ireturn, 1) := by decide +kernel
theorem dX2_tell_108 : decode cX2_tell 108 = .ok (.aload_n 0, 1) := by decide +kernel
theorem dX2_tell_109 : decode cX2_tell 109 = .ok (.getfield 44, 3) := by decide +kernel
theorem dX2_tell_112 : decode cX2_tell 112 = .ok (.ireturn, 1) := by decide +kernel
theorem dX2_tell_113 : decode cX2_tell 113 = .ok (.aload_n 0, 1) := by decide +kernel
theorem dX2_tell_114 : decode cX2_tell 114 = .ok (.getfield 33, 3) := by decide +kernel
theorem dX2_tell_117 : decode cX2_tell 117 = .ok (.getfield 128, 3) := by decide +kernel
theorem dX2_tell_120 : decode cX2_tell 120 = .ok (.ireturn, 1) := by decide +kernel
theorem dX2_tell_121 : decode cX2_tell 121 = .ok (.aload_n 0, 1) := by decide +kernel
theorem dX2_tell_122 : decode cX2_tell 122 = .ok (.getfield 33, 3) := by decide +kernel
theorem dX2_tell_125 : decode cX2_tell 125 = .ok (.getfield 105, 3) := by decide +kernel
theorem dX2_tell_128 : decode cX2_tell 128 = .ok (.ireturn, 1) := by decide +kernel
theorem dX2_tell_129 : decode cX2_tell 129 = .ok (.aload_n 0, 1) := by decide +kernel
theorem dX2_tell_130 : decode cX2_tell 130 = .ok (.getfield 26, 3) := by decide +kernel
theorem dX2_tell_133 : decode cX2_tell 133 = .ok (.iconst 0, 1) := by decide +kernel
theorem dX2_tell_134 : decode cX2_tell 134 = .ok (.bipush 20, 2) := by decide +kernel
theorem dX2_tell_136 : decode cX2_tell 136 = .ok (.invokevirtual 186, 3) := by decide +kernel
theorem dX2_tell_139 : decode cX2_tell 139 = .ok (.ireturn, 1) := by decide +kernel
theorem dX2_tell_140 : decode cX2_tell 140 = .ok (.aload_n 0, 1) := by decide +kernel
theorem dX2_tell_141 : decode cX2_tell 141 = .ok (.getfield 26, 3) := by decide +kernel
theorem dX2_tell_144 : decode cX2_tell 144 = .ok (.aload_n 0, 1) := by decide +kernel
theorem dX2_tell_145 : decode cX2_tell 145 = .ok (.getfield 40, 3) := by decide +kernel
theorem dX2_tell_148 : decode cX2_tell 148 = .ok (.getfield 203, 3) := by decide +kernel
theorem dX2_tell_151 : decode cX2_tell 151 = .ok (.iconst 1, 1) := by decide +kernel
theorem dX2_tell_152 : decode cX2_tell 152 = .ok (.iadd, 1) := by decide +kernel
theorem dX2_tell_153 : decode cX2_tell 153 = .ok (.bipush 20, 2) := by decide +kernel
theorem dX2_tell_155 : decode cX2_tell 155 = .ok (.invokevirtual 186, 3) := by decide +kernel
theorem dX2_tell_158 : decode cX2_tell 158 = .ok (.ireturn, 1) := by decide +kernel
theorem dX2_tell_159 : decode cX2_tell 159 = .ok (.aload_n 0, 1) := by decide +kernel
theorem dX2_tell_160 : decode cX2_tell 160 = .ok (.invokevirtual 230, 3) := by decide +kernel
theorem dX2_tell_163 : decode cX2_tell 163 = .ok (.ireturn, 1) := by decide +kernel
theorem dX2_tell_164 : decode cX2_tell 164 = .ok (.aload_n 0, 1) := by decide +kernel
theorem dX2_tell_165 : decode cX2_tell 165 = .ok (.getfield 33, 3) := by decide +kernel
theorem dX2_tell_168 : decode cX2_tell 168 = .ok (.getfield 122, 3) := by decide +kernel
theorem dX2_tell_171 : decode cX2_tell 171 = .ok (.ireturn, 1) := by decide +kernel
theorem dX2_tell_172 : decode cX2_tell 172 = .ok (.aload_n 0, 1) := by decide +kernel
theorem dX2_tell_173 : decode cX2_tell 173 = .ok (.getfield 33, 3) := by decide +kernel
theorem dX2_tell_176 : decode cX2_tell 176 = .ok (.getfield 145, 3) := by decide +kernel
theorem dX2_tell_179 : decode cX2_tell 179 = .ok (.ireturn, 1) := by decide +kernel
theorem dX2_tell_180 : decode cX2_tell 180 = .ok (.aload_n 0, 1) := by decide +kernel
theorem dX2_tell_181 : decode cX2_tell 181 = .ok (.getfield 33, 3) := by decide +kernel
theorem dX2_tell_184 : decode cX2_tell 184 = .ok (.getfield 171, 3) := by decide +kernel
theorem dX2_tell_187 : decode cX2_tell 187 = .ok (.ireturn, 1) := by decide +kernel
theorem dX2_tell_188 : decode cX2_tell 188 = .ok (.aload_n 0, 1) := by decide +kernel
theorem dX2_tell_189 : decode cX2_tell 189 = .ok (.getfield 33, 3) := by decide +kernel
theorem dX2_tell_192 : decode cX2_tell 192 = .ok (.getfield 197, 3) := by decide +kernel
theorem dX2_tell_195 : decode cX2_tell 195 = .ok (.ireturn, 1) := by decide +kernel
theorem dX2_tell_196 : decode cX2_tell 196 = .ok (.aload_n 0, 1) := by decide +kernel
theorem dX2_tell_197 : decode cX2_tell 197 = .ok (.getfield 33, 3) := by decide +kernel
theorem dX2_tell_200 : decode cX2_tell 200 = .ok (.getfield 154, 3) := by decide +kernel
theorem dX2_tell_203 : decode cX2_tell 203 = .ok (.ireturn, 1) := by decide +kernel
theorem dX2_tell_204 : decode cX2_tell 204 = .ok (.aload_n 0, 1) := by decide +kernel
theorem dX2_tell_205 : decode cX2_tell 205 = .ok (.getfield 33, 3) := by decide +kernel
theorem dX2_tell_208 : decode cX2_tell 208 = .ok (.getfield 213, 3) := by decide +kernel
theorem dX2_tell_211 : decode cX2_tell 211 = .ok (.ireturn, 1) := by decide +kernel
theorem dX2_tell_212 : decode cX2_tell 212 = .ok (.aload_n 0, 1) := by decide +kernel
theorem dX2_tell_213 : decode cX2_tell 213 = .ok (.getfield 33, 3) := by decide +kernel
theorem dX2_tell_216 : decode cX2_tell 216 = .ok (.getfield 220, 3) := by decide +kernel
theorem dX2_tell_219 : decode cX2_tell 219 = .ok (.ireturn, 1) := by decide +kernel
theorem dX2_tell_220 : decode cX2_tell 220 = .ok (.aload_n 0, 1) := by decide +kernel
theorem dX2_tell_221 : decode cX2_tell 221 = .ok (.getfield 33, 3) := by decide +kernel
theorem dX2_tell_224 : decode cX2_tell 224 = .ok (.getfield 131, 3) := by decide +kernel
theorem dX2_tell_227 : decode cX2_tell 227 = .ok (.ireturn, 1) := by decide +kernel
theorem dX2_tell_228 : decode cX2_tell 228 = .ok (.iload_n 1, 1) := by decide +kernel
theorem dX2_tell_229 : decode cX2_tell 229 = .ok (.bipush 20, 2) := by decide +kernel
theorem dX2_tell_231 : decode cX2_tell 231 = .ok (.bipush 23, 2) := by decide +kernel
theorem dX2_tell_233 : decode cX2_tell 233 = .ok (.invokestatic 89, 3) := by decide +kernel
theorem dX2_tell_236 : decode cX2_tell 236 = .ok (.ifCond .eq 17, 3) := by decide +kernel
theorem dX2_tell_239 : decode cX2_tell 239 = .ok (.aload_n 0, 1) := by decide +kernel
theorem dX2_tell_240 : decode cX2_tell 240 = .ok (.getfield 40, 3) := by decide +kernel
theorem dX2_tell_243 : decode cX2_tell 243 = .ok (.iload_n 1, 1) := by decide +kernel
theorem dX2_tell_244 : decode cX2_tell 244 = .ok (.bipush 20, 2) := by decide +kernel
theorem dX2_tell_246 : decode cX2_tell 246 = .ok (.isub, 1) := by decide +kernel
theorem dX2_tell_247 : decode cX2_tell 247 = .ok (.invokevirtual 233, 3) := by decide +kernel
theorem dX2_tell_250 : decode cX2_tell 250 = .ok (.goto 5, 3) := by decide +kernel
theorem dX2_tell_253 : decode cX2_tell 253 = .ok (.ldc 93, 2) := by decide +kernel
theorem dX2_tell_255 : decode cX2_tell 255 = .ok (.ireturn, 1) := by decide +kernel
theorem dX3_init_0 : decode cX3_init 0 = .ok (.aload_n 0, 1) := by decide +kernel
theorem dX3_init_1 : decode cX3_init 1 = .ok (.invokespecial 1, 3) := by decide +kernel
theorem dX3_init_4 : decode cX3_init 4 = .ok (.return_, 1) := by decide +kernel
theorem dX3_copyFrom_0 : decode cX3_copyFrom 0 = .ok (.aload_n 0, 1) := by decide +kernel
theorem dX3_copyFrom_1 : decode cX3_copyFrom 1 = .ok (.aload_n 1, 1) := by decide +kernel
theorem dX3_copyFrom_2 : decode cX3_copyFrom 2 = .ok (.getfield 7, 3) := by decide +kernel
theorem dX3_copyFrom_5 : decode cX3_copyFrom 5 = .ok (.putfield 7, 3) := by decide +kernel
theorem dX3_copyFrom_8 : decode cX3_copyFrom 8 = .ok (.aload_n 0, 1) := by decide +kernel
theorem dX3_copyFrom_9 : decode cX3_copyFrom 9 = .ok (.aload_n 1, 1) := by decide +kernel
theorem dX3_copyFrom_10 : decode cX3_copyFrom 10 = .ok (.getfield 13, 3) := by decide +kernel
theorem dX3_copyFrom_13 : decode cX3_copyFrom 13 = .ok (.putfield 13, 3) := by decide +kernel
theorem dX3_copyFrom_16 : decode cX3_copyFrom 16 = .ok (.aload_n 0, 1) := by decide +kernel
theorem dX3_copyFrom_17 : decode cX3_copyFrom 17 = .ok (.aload_n 1, 1) := by decide +kernel
theorem dX3_copyFrom_18 : decode cX3_copyFrom 18 = .ok (.getfield 16, 3) := by decide +kernel
theorem dX3_copyFrom_21 : decode cX3_copyFrom 21 = .ok (.putfield 16, 3) := by decide +kernel
theorem dX3_copyFrom_24 : decode cX3_copyFrom 24 = .ok (.aload_n 0, 1) := by decide +kernel
theorem dX3_copyFrom_25 : decode cX3_copyFrom 25 = .ok (.aload_n 1, 1) := by decide +kernel
theorem dX3_copyFrom_26 : decode cX3_copyFrom 26 = .ok (.getfield 19, 3) := by decide +kernel
theorem dX3_copyFrom_29 : decode cX3_copyFrom 29 = .ok (.putfield 19, 3) := by decide +kernel
theorem dX3_copyFrom_32 : decode cX3_copyFrom 32 = .ok (.aload_n 0, 1) := by decide +kernel
theorem dX3_copyFrom_33 : decode cX3_copyFrom 33 = .ok (.aload_n 1, 1) := by decide +kernel
theorem dX3_copyFrom_34 : decode cX3_copyFrom 34 = .ok (.getfield 22, 3) := by decide +kernel
theorem dX3_copyFrom_37 : decode cX3_copyFrom 37 = .ok (.putfield 22, 3) := by decide +kernel
theorem dX3_copyFrom_40 : decode cX3_copyFrom 40 = .ok (.aload_n 0, 1) := by decide +kernel
theorem dX3_copyFrom_41 : decode cX3_copyFrom 41 = .ok (.aload_n 1, 1) := by decide +kernel
theorem dX3_copyFrom_42 : decode cX3_copyFrom 42 = .ok (.getfield 25, 3) := by decide +kernel
theorem dX3_copyFrom_45 : decode cX3_copyFrom 45 = .ok (.putfield 25, 3) := by decide +kernel
theorem dX3_copyFrom_48 : decode cX3_copyFrom 48 = .ok (.aload_n 0, 1) := by decide +kernel
theorem dX3_copyFrom_49 : decode cX3_copyFrom 49 = .ok (.aload_n 1, 1) := by decide +kernel
theorem dX3_copyFrom_50 : decode cX3_copyFrom 50 = .ok (.getfield 28, 3) := by decide +kernel
theorem dX3_copyFrom_53 : decode cX3_copyFrom 53 = .ok (.putfield 28, 3) := by decide +kernel
theorem dX3_copyFrom_56 : decode cX3_copyFrom 56 = .ok (.aload_n 0, 1) := by decide +kernel
theorem dX3_copyFrom_57 : decode cX3_copyFrom 57 = .ok (.aload_n 1, 1) := by decide +kernel
theorem dX3_copyFrom_58 : decode cX3_copyFrom 58 = .ok (.getfield 31, 3) := by decide +kernel
theorem dX3_copyFrom_61 : decode cX3_copyFrom 61 = .ok (.putfield 31, 3) := by decide +kernel
theorem dX3_copyFrom_64 : decode cX3_copyFrom 64 = .ok (.aload_n 0, 1) := by decide +kernel
theorem dX3_copyFrom_65 : decode cX3_copyFrom 65 = .ok (.aload_n 1, 1) := by decide +kernel
theorem dX3_copyFrom_66 : decode cX3_copyFrom 66 = .ok (.getfield 34, 3) := by decide +kernel
theorem dX3_copyFrom_69 : decode cX3_copyFrom 69 = .ok (.putfield 34, 3) := by decide +kernel
theorem dX3_copyFrom_72 : decode cX3_copyFrom 72 = .ok (.aload_n 0, 1) := by decide +kernel
theorem dX3_copyFrom_73 : decode cX3_copyFrom 73 = .ok (.aload_n 1, 1) := by decide +kernel
theorem dX3_copyFrom_74 : decode cX3_copyFrom 74 = .ok (.getfield 37, 3) := by decide +kernel
theorem dX3_copyFrom_77 : decode cX3_copyFrom 77 = .ok (.putfield 37, 3) := by decide +kernel
theorem dX3_copyFrom_80 : decode cX3_copyFrom 80 = .ok (.return_, 1) := by decide +kernel
theorem dX3_wasted_0 : decode cX3_wasted 0 = .ok (.aload_n 0, 1) := by decide +kernel
theorem dX3_wasted_1 : decode cX3_wasted 1 = .ok (.getfield 22, 3) := by decide +kernel
theorem dX3_wasted_4 : decode cX3_wasted 4 = .ok (.aload_n 0, 1) := by decide +kernel
theorem dX3_wasted_5 : decode cX3_wasted 5 = .ok (.getfield 25, 3) := by decide +kernel
theorem dX3_wasted_8 : decode cX3_wasted 8 = .ok (.iadd, 1) := by decide +kernel
theorem dX3_wasted_9 : decode cX3_wasted 9 = .ok (.ireturn, 1) := by decide +kernel
theorem dX4_init_0 : decode cX4_init 0 = .ok (.aload_n 0, 1) := by decide +kernel
theorem dX4_init_1 : decode cX4_init 1 = .ok (.invokespecial 3, 3) := by decide +kernel
theorem dX4_init_4 : decode cX4_init 4 = .ok (.return_, 1) := by decide +kernel
theorem dX4_copyFrom_0 : decode cX4_copyFrom 0 = .ok (.aload_n 0, 1) := by decide +kernel
theorem dX4_copyFrom_1 : decode cX4_copyFrom 1 = .ok (.aload_n 1, 1) := by decide +kernel
theorem dX4_copyFrom_2 : decode cX4_copyFrom 2 = .ok (.getfield 9, 3) := by decide +kernel
theorem dX4_copyFrom_5 : decode cX4_copyFrom 5 = .ok (.putfield 9, 3) := by decide +kernel
theorem dX4_copyFrom_8 : decode cX4_copyFrom 8 = .ok (.aload_n 0, 1) := by decide +kernel
theorem dX4_copyFrom_9 : decode cX4_copyFrom 9 = .ok (.aload_n 1, 1) := by decide +kernel
theorem dX4_copyFrom_10 : decode cX4_copyFrom 10 = .ok (.getfield 15, 3) := by decide +kernel
theorem dX4_copyFrom_13 : decode cX4_copyFrom 13 = .ok (.putfield 15, 3) := by decide +kernel
theorem dX4_copyFrom_16 : decode cX4_copyFrom 16 = .ok (.aload_n 0, 1) := by decide +kernel
theorem dX4_copyFrom_17 : decode cX4_copyFrom 17 = .ok (.aload_n 1, 1) := by decide +kernel
theorem dX4_copyFrom_18 : decode cX4_copyFrom 18 = .ok (.getfield 18, 3) := by decide +kernel
theorem dX4_copyFrom_21 : decode cX4_copyFrom 21 = .ok (.putfield 18, 3) := by decide +kernel
theorem dX4_copyFrom_24 : decode cX4_copyFrom 24 = .ok (.aload_n 0, 1) := by decide +kernel
theorem dX4_copyFrom_25 : decode cX4_copyFrom 25 = .ok (.aload_n 1, 1) := by decide +kernel
theorem dX4_copyFrom_26 : decode cX4_copyFrom 26 = .ok (.getfield 21, 3) := by decide +kernel
theorem dX4_copyFrom_29 : decode cX4_copyFrom 29 = .ok (.putfield 21, 3) := by decide +kernel
theorem dX4_copyFrom_32 : decode cX4_copyFrom 32 = .ok (.aload_n 0, 1) := by decide +kernel
theorem dX4_copyFrom_33 : decode cX4_copyFrom 33 = .ok (.aload_n 1, 1) := by decide +kernel
theorem dX4_copyFrom_34 : decode cX4_copyFrom 34 = .ok (.getfield 24, 3) := by decide +kernel
theorem dX4_copyFrom_37 : decode cX4_copyFrom 37 = .ok (.putfield 24, 3) := by decide +kernel
theorem dX4_copyFrom_40 : decode cX4_copyFrom 40 = .ok (.aload_n 0, 1) := by decide +kernel
theorem dX4_copyFrom_41 : decode cX4_copyFrom 41 = .ok (.aload_n 1, 1) := by decide +kernel
theorem dX4_copyFrom_42 : decode cX4_copyFrom 42 = .ok (.getfield 27, 3) := by decide +kernel
theorem dX4_copyFrom_45 : decode cX4_copyFrom 45 = .ok (.putfield 27, 3) := by decide +kernel
theorem dX4_copyFrom_48 : decode cX4_copyFrom 48 = .ok (.aload_n 0, 1) := by decide +kernel
theorem dX4_copyFrom_49 : decode cX4_copyFrom 49 = .ok (.aload_n 1, 1) := by decide +kernel
theorem dX4_copyFrom_50 : decode cX4_copyFrom 50 = .ok (.getfield 30, 3) := by decide +kernel
theorem dX4_copyFrom_53 : decode cX4_copyFrom 53 = .ok (.putfield 30, 3) := by decide +kernel
theorem dX4_copyFrom_56 : decode cX4_copyFrom 56 = .ok (.aload_n 0, 1) := by decide +kernel
theorem dX4_copyFrom_57 : decode cX4_copyFrom 57 = .ok (.aload_n 1, 1) := by decide +kernel
theorem dX4_copyFrom_58 : decode cX4_copyFrom 58 = .ok (.getfield 33, 3) := by decide +kernel
theorem dX4_copyFrom_61 : decode cX4_copyFrom 61 = .ok (.putfield 33, 3) := by decide +kernel
theorem dX4_copyFrom_64 : decode cX4_copyFrom 64 = .ok (.aload_n 0, 1) := by decide +kernel
theorem dX4_copyFrom_65 : decode cX4_copyFrom 65 = .ok (.aload_n 1, 1) := by decide +kernel
theorem dX4_copyFrom_66 : decode cX4_copyFrom 66 = .ok (.getfield 36, 3) := by decide +kernel
theorem dX4_copyFrom_69 : decode cX4_copyFrom 69 = .ok (.putfield 36, 3) := by decide +kernel
theorem dX4_copyFrom_72 : decode cX4_copyFrom 72 = .ok (.return_, 1) := by decide +kernel
theorem dX4_begin_0 : decode cX4_begin 0 = .ok (.aload_n 0, 1) := by decide +kernel
theorem dX4_begin_1 : decode cX4_begin 1 = .ok (.iload_n 1, 1) := by decide +kernel
theorem dX4_begin_2 : decode cX4_begin 2 = .ok (.putfield 9, 3) := by decide +kernel
theorem dX4_begin_5 : decode cX4_begin 5 = .ok (.aload_n 0, 1) := by decide +kernel
theorem dX4_begin_6 : decode cX4_begin 6 = .ok (.iload_n 2, 1) := by decide +kernel
theorem dX4_begin_7 : decode cX4_begin 7 = .ok (.putfield 15, 3) := by decide +kernel
theorem dX4_begin_10 : decode cX4_begin 10 = .ok (.aload_n 0, 1) := by decide +kernel
theorem dX4_begin_11 : decode cX4_begin 11 = .ok (.iconst 0, 1) := by decide +kernel
theorem dX4_begin_12 : decode cX4_begin 12 = .ok (.putfield 18, 3) := by decide +kernel
theorem dX4_begin_15 : decode cX4_begin 15 = .ok (.aload_n 0, 1) := by decide +kernel
theorem dX4_begin_16 : decode cX4_begin 16 = .ok (.iconst 0, 1) := by decide +kernel
theorem dX4_begin_17 : decode cX4_begin 17 = .ok (.putfield 21, 3) := by decide +kernel
theorem dX4_begin_20 : decode cX4_begin 20 = .ok (.aload_n 0, 1) := by decide +kernel
theorem dX4_begin_21 : decode cX4_begin 21 = .ok (.iconst 0, 1) := by decide +kernel
theorem dX4_begin_22 : decode cX4_begin 22 = .ok (.putfield 24, 3) := by decide +kernel
theorem dX4_begin_25 : decode cX4_begin 25 = .ok (.aload_n 0, 1) := by decide +kernel
theorem dX4_begin_26 : decode cX4_begin 26 = .ok (.iconst 0, 1) := by decide +kernel
theorem dX4_begin_27 : decode cX4_begin 27 = .ok (.putfield 27, 3) := by decide +kernel
theorem dX4_begin_30 : decode cX4_begin 30 = .ok (.aload_n 0, 1) := by decide +kernel
theorem dX4_begin_31 : decode cX4_begin 31 = .ok (.iconst 0, 1) := by decide +kernel
theorem dX4_begin_32 : decode cX4_begin 32 = .ok (.putfield 30, 3) := by decide +kernel
theorem dX4_begin_35 : decode cX4_begin 35 = .ok (.aload_n 0, 1) := by decide +kernel
theorem dX4_begin_36 : decode cX4_begin 36 = .ok (.iconst 0, 1) := by decide +kernel
theorem dX4_begin_37 : decode cX4_begin 37 = .ok (.putfield 33, 3) := by decide +kernel
theorem dX4_begin_40 : decode cX4_begin 40 = .ok (.aload_n 0, 1) := by decide +kernel
theorem dX4_begin_41 : decode cX4_begin 41 = .ok (.iconst 0, 1) := by decide +kernel
theorem dX4_begin_42 : decode cX4_begin 42 = .ok (.putfield 36, 3) := by decide +kernel
theorem dX4_begin_45 : decode cX4_begin 45 = .ok (.return_, 1) := by decide +kernel
theorem dX4_leave_0 : decode cX4_leave 0 = .ok (.aload_n 0, 1) := by decide +kernel
theorem dX4_leave_1 : decode cX4_leave 1 = .ok (.iconst 1, 1) := by decide +kernel
theorem dX4_leave_2 : decode cX4_leave 2 = .ok (.putfield 18, 3) := by decide +kernel
theorem dX4_leave_5 : decode cX4_leave 5 = .ok (.aload_n 0, 1) := by decide +kernel
theorem dX4_leave_6 : decode cX4_leave 6 = .ok (.iconst 2, 1) := by decide +kernel
theorem dX4_leave_7 : decode cX4_leave 7 = .ok (.putfield 21, 3) := by decide +kernel
theorem dX4_leave_10 : decode cX4_leave 10 = .ok (.aload_n 0, 1) := by decide +kernel
theorem dX4_leave_11 : decode cX4_leave 11 = .ok (.iload_n 1, 1) := by decide +kernel
theorem dX4_leave_12 : decode cX4_leave 12 = .ok (.putfield 24, 3) := by decide +kernel
theorem dX4_leave_15 : decode cX4_leave 15 = .ok (.aload_n 0, 1) := by decide +kernel
theorem dX4_leave_16 : decode cX4_leave 16 = .ok (.iload_n 2, 1) := by decide +kernel
theorem dX4_leave_17 : decode cX4_leave 17 = .ok (.putfield 27, 3) := by decide +kernel
theorem dX4_leave_20 : decode cX4_leave 20 = .ok (.aload_n 0, 1) := by decide +kernel
theorem dX4_leave_21 : decode cX4_leave 21 = .ok (.dup, 1) := by decide +kernel
theorem dX4_leave_22 : decode cX4_leave 22 = .ok (.getfield 30, 3) := by decide +kernel
theorem dX4_leave_25 : decode cX4_leave 25 = .ok (.iconst 1, 1) := by decide +kernel
theorem dX4_leave_26 : decode cX4_leave 26 = .ok (.iadd, 1) := by decide +kernel
theorem dX4_leave_27 : decode cX4_leave 27 = .ok (.putfield 30, 3) := by decide +kernel
theorem dX4_leave_30 : decode cX4_leave 30 = .ok (.return_, 1) := by decide +kernel
theorem dX4_comeOn_0 : decode cX4_comeOn 0 = .ok (.aload_n 0, 1) := by decide +kernel
theorem dX4_comeOn_1 : decode cX4_comeOn 1 = .ok (.getfield 18, 3) := by decide +kernel
theorem dX4_comeOn_4 : decode cX4_comeOn 4 = .ok (.ifCond .eq 15, 3) := by decide +kernel
theorem dX4_comeOn_7 : decode cX4_comeOn 7 = .ok (.iload_n 1, 1) := by decide +kernel
theorem dX4_comeOn_8 : decode cX4_comeOn 8 = .ok (.ifCond .eq 13, 3) := by decide +kernel
theorem dX4_comeOn_11 : decode cX4_comeOn 11 = .ok (.aload_n 0, 1) := by decide +kernel
theorem dX4_comeOn_12 : decode cX4_comeOn 12 = .ok (.getfield 18, 3) := by decide +kernel
theorem dX4_comeOn_15 : decode cX4_comeOn 15 = .ok (.iconst 3, 1) := by decide +kernel
theorem dX4_comeOn_16 : decode cX4_comeOn 16 = .ok (.if_icmp .eq 5, 3) := by decide +kernel
theorem dX4_comeOn_19 : decode cX4_comeOn 19 = .ok (.iconst 0, 1) := by decide +kernel
theorem dX4_comeOn_20 : decode cX4_comeOn 20 = .ok (.ireturn, 1) := by decide +kernel
theorem dX4_comeOn_21 : decode cX4_comeOn 21 = .ok (.aload_n 0, 1) := by decide +kernel
theorem dX4_comeOn_22 : decode cX4_comeOn 22 = .ok (.dup, 1) := by decide +kernel
theorem dX4_comeOn_23 : decode cX4_comeOn 23 = .ok (.getfield 21, 3) := by decide +kernel
theorem dX4_comeOn_26 : decode cX4_comeOn 26 = .ok (.iconst 1, 1) := by decide +kernel
theorem dX4_comeOn_27 : decode cX4_comeOn 27 = .ok (.isub, 1) := by decide +kernel
theorem dX4_comeOn_28 : decode cX4_comeOn 28 = .ok (.putfield 21, 3) := by decide +kernel
theorem dX4_comeOn_31 : decode cX4_comeOn 31 = .ok (.aload_n 0, 1) := by decide +kernel
theorem dX4_comeOn_32 : decode cX4_comeOn 32 = .ok (.getfield 21, 3) := by decide +kernel
theorem dX4_comeOn_35 : decode cX4_comeOn 35 = .ok (.ifCond .le 5, 3) := by decide +kernel
theorem dX4_comeOn_38 : decode cX4_comeOn 38 = .ok (.iconst 0, 1) := by decide +kernel
theorem dX4_comeOn_39 : decode cX4_comeOn 39 = .ok (.ireturn, 1) := by decide +kernel
theorem dX4_comeOn_40 : decode cX4_comeOn 40 = .ok (.aload_n 0, 1) := by decide +kernel
theorem dX4_comeOn_41 : decode cX4_comeOn 41 = .ok (.getfield 18, 3) := by decide +kernel
theorem dX4_comeOn_44 : decode cX4_comeOn 44 = .ok (.iconst 1, 1) := by decide +kernel
theorem dX4_comeOn_45 : decode cX4_comeOn 45 = .ok (.if_icmp .ne 15, 3) := by decide +kernel
theorem dX4_comeOn_48 : decode cX4_comeOn 48 = .ok (.aload_n 0, 1) := by decide +kernel
theorem dX4_comeOn_49 : decode cX4_comeOn 49 = .ok (.iconst 2, 1) := by decide +kernel
theorem dX4_comeOn_50 : decode cX4_comeOn 50 = .ok (.putfield 18, 3) := by decide +kernel
theorem dX4_comeOn_53 : decode cX4_comeOn 53 = .ok (.aload_n 0, 1) := by decide +kernel
theorem dX4_comeOn_54 : decode cX4_comeOn 54 = .ok (.iconst 2, 1) := by decide +kernel
theorem dX4_comeOn_55 : decode cX4_comeOn 55 = .ok (.putfield 21, 3) := by decide +kernel
theorem dX4_comeOn_58 : decode cX4_comeOn 58 = .ok (.iconst 1, 1) := by decide +kernel
theorem dX4_comeOn_59 : decode cX4_comeOn 59 = .ok (.ireturn, 1) := by decide +kernel
theorem dX4_comeOn_60 : decode cX4_comeOn 60 = .ok (.aload_n 0, 1) := by decide +kernel
theorem dX4_comeOn_61 : decode cX4_comeOn 61 = .ok (.getfield 18, 3) := by decide +kernel
theorem dX4_comeOn_64 : decode cX4_comeOn 64 = .ok (.iconst 2, 1) := by decide +kernel
theorem dX4_comeOn_65 : decode cX4_comeOn 65 = .ok (.if_icmp .ne 36, 3) := by decide +kernel
theorem dX4_comeOn_68 : decode cX4_comeOn 68 = .ok (.aload_n 0, 1) := by decide +kernel
theorem dX4_comeOn_69 : decode cX4_comeOn 69 = .ok (.getfield 30, 3) := by decide +kernel
theorem dX4_comeOn_72 : decode cX4_comeOn 72 = .ok (.aload_n 0, 1) := by decide +kernel
theorem dX4_comeOn_73 : decode cX4_comeOn 73 = .ok (.getfield 15, 3) := by decide +kernel
theorem dX4_comeOn_76 : decode cX4_comeOn 76 = .ok (.if_icmp .lt 25, 3) := by decide +kernel
theorem dX4_comeOn_79 : decode cX4_comeOn 79 = .ok (.aload_n 0, 1) := by decide +kernel
theorem dX4_comeOn_80 : decode cX4_comeOn 80 = .ok (.iconst 3, 1) := by decide +kernel
theorem dX4_comeOn_81 : decode cX4_comeOn 81 = .ok (.putfield 18, 3) := by decide +kernel
theorem dX4_comeOn_84 : decode cX4_comeOn 84 = .ok (.aload_n 0, 1) := by decide +kernel
theorem dX4_comeOn_85 : decode cX4_comeOn 85 = .ok (.iconst 5, 1) := by decide +kernel
theorem dX4_comeOn_86 : decode cX4_comeOn 86 = .ok (.putfield 21, 3) := by decide +kernel
theorem dX4_comeOn_89 : decode cX4_comeOn 89 = .ok (.aload_n 0, 1) := by decide +kernel
theorem dX4_comeOn_90 : decode cX4_comeOn 90 = .ok (.dup, 1) := by decide +kernel
theorem dX4_comeOn_91 : decode cX4_comeOn 91 = .ok (.getfield 36, 3) := by decide +kernel
theorem dX4_comeOn_94 : decode cX4_comeOn 94 = .ok (.iconst 1, 1) := by decide +kernel
theorem dX4_comeOn_95 : decode cX4_comeOn 95 = .ok (.iadd, 1) := by decide +kernel
theorem dX4_comeOn_96 : decode cX4_comeOn 96 = .ok (.putfield 36, 3) := by decide +kernel
theorem dX4_comeOn_99 : decode cX4_comeOn 99 = .ok (.iconst 0, 1) := by decide +kernel
theorem dX4_comeOn_100 : decode cX4_comeOn 100 = .ok (.ireturn, 1) := by decide +kernel
theorem dX4_comeOn_101 : decode cX4_comeOn 101 = .ok (.aload_n 0, 1) := by decide +kernel
theorem dX4_comeOn_102 : decode cX4_comeOn 102 = .ok (.getfield 18, 3) := by decide +kernel
theorem dX4_comeOn_105 : decode cX4_comeOn 105 = .ok (.iconst 3, 1) := by decide +kernel
theorem dX4_comeOn_106 : decode cX4_comeOn 106 = .ok (.if_icmp .ne 8, 3) := by decide +kernel
theorem dX4_comeOn_109 : decode cX4_comeOn 109 = .ok (.aload_n 0, 1) := by decide +kernel
theorem dX4_comeOn_110 : decode cX4_comeOn 110 = .ok (.iconst 0, 1) := by decide +kernel
theorem dX4_comeOn_111 : decode cX4_comeOn 111 = .ok (.putfield 30, 3) := by decide +kernel
theorem dX4_comeOn_114 : decode cX4_comeOn 114 = .ok (.aload_n 0, 1) := by decide +kernel
theorem dX4_comeOn_115 : decode cX4_comeOn 115 = .ok (.iconst 0, 1) := by decide +kernel
theorem dX4_comeOn_116 : decode cX4_comeOn 116 = .ok (.putfield 18, 3) := by decide +kernel
theorem dX4_comeOn_119 : decode cX4_comeOn 119 = .ok (.iconst 0, 1) := by decide +kernel
theorem dX4_comeOn_120 : decode cX4_comeOn 120 = .ok (.ireturn, 1) := by decide +kernel
theorem dX4_unload_0 : decode cX4_unload 0 = .ok (.aload_n 0, 1) := by decide +kernel
theorem dX4_unload_1 : decode cX4_unload 1 = .ok (.getfield 24, 3) := by decide +kernel
theorem dX4_unload_4 : decode cX4_unload 4 = .ok (.istore_n 1, 1) := by decide +kernel
theorem dX4_unload_5 : decode cX4_unload 5 = .ok (.aload_n 0, 1) := by decide +kernel
theorem dX4_unload_6 : decode cX4_unload 6 = .ok (.iconst 0, 1) := by decide +kernel
theorem dX4_unload_7 : decode cX4_unload 7 = .ok (.putfield 24, 3) := by decide +kernel
theorem dX4_unload_10 : decode cX4_unload 10 = .ok (.aload_n 0, 1) := by decide +kernel
theorem dX4_unload_11 : decode cX4_unload 11 = .ok (.dup, 1) := by decide +kernel
theorem dX4_unload_12 : decode cX4_unload 12 = .ok (.getfield 33, 3) := by decide +kernel
theorem dX4_unload_15 : decode cX4_unload 15 = .ok (.iload_n 1, 1) := by decide +kernel
theorem dX4_unload_16 : decode cX4_unload 16 = .ok (.iadd, 1) := by decide +kernel
theorem dX4_unload_17 : decode cX4_unload 17 = .ok (.putfield 33, 3) := by decide +kernel
theorem dX4_unload_20 : decode cX4_unload 20 = .ok (.iload_n 1, 1) := by decide +kernel
theorem dX4_unload_21 : decode cX4_unload 21 = .ok (.ireturn, 1) := by decide +kernel
theorem dX4_goesAheadOf_0 : decode cX4_goesAheadOf 0 = .ok (.aload_n 0, 1) := by decide +kernel
theorem dX4_goesAheadOf_1 : decode cX4_goesAheadOf 1 = .ok (.getfield 9, 3) := by decide +kernel
theorem dX4_goesAheadOf_4 : decode cX4_goesAheadOf 4 = .ok (.aload_n 1, 1) := by decide +kernel
theorem dX4_goesAheadOf_5 : decode cX4_goesAheadOf 5 = .ok (.getfield 9, 3) := by decide +kernel
theorem dX4_goesAheadOf_8 : decode cX4_goesAheadOf 8 = .ok (.if_icmp .eq 22, 3) := by decide +kernel
theorem dX4_goesAheadOf_11 : decode cX4_goesAheadOf 11 = .ok (.aload_n 0, 1) := by decide +kernel
theorem dX4_goesAheadOf_12 : decode cX4_goesAheadOf 12 = .ok (.getfield 9, 3) := by decide +kernel
theorem dX4_goesAheadOf_15 : decode cX4_goesAheadOf 15 = .ok (.aload_n 1, 1) := by decide +kernel
theorem dX4_goesAheadOf_16 : decode cX4_goesAheadOf 16 = .ok (.getfield 9, 3) := by decide +kernel
theorem dX4_goesAheadOf_19 : decode cX4_goesAheadOf 19 = .ok (.if_icmp .le 7, 3) := by decide +kernel
theorem dX4_goesAheadOf_22 : decode cX4_goesAheadOf 22 = .ok (.iconst 1, 1) := by decide +kernel
theorem dX4_goesAheadOf_23 : decode cX4_goesAheadOf 23 = .ok (.goto 23, 3) := by decide +kernel
theorem dX4_goesAheadOf_26 : decode cX4_goesAheadOf 26 = .ok (.iconst 0, 1) := by decide +kernel
theorem dX4_goesAheadOf_27 : decode cX4_goesAheadOf 27 = .ok (.goto 19, 3) := by decide +kernel
theorem dX4_goesAheadOf_30 : decode cX4_goesAheadOf 30 = .ok (.aload_n 0, 1) := by decide +kernel
theorem dX4_goesAheadOf_31 : decode cX4_goesAheadOf 31 = .ok (.getfield 30, 3) := by decide +kernel
theorem dX4_goesAheadOf_34 : decode cX4_goesAheadOf 34 = .ok (.aload_n 1, 1) := by decide +kernel
theorem dX4_goesAheadOf_35 : decode cX4_goesAheadOf 35 = .ok (.getfield 30, 3) := by decide +kernel
theorem dX4_goesAheadOf_38 : decode cX4_goesAheadOf 38 = .ok (.if_icmp .ge 7, 3) := by decide +kernel
theorem dX4_goesAheadOf_41 : decode cX4_goesAheadOf 41 = .ok (.iconst 1, 1) := by decide +kernel
theorem dX4_goesAheadOf_42 : decode cX4_goesAheadOf 42 = .ok (.goto 4, 3) := by decide +kernel
theorem dX4_goesAheadOf_45 : decode cX4_goesAheadOf 45 = .ok (.iconst 0, 1) := by decide +kernel
theorem dX4_goesAheadOf_46 : decode cX4_goesAheadOf 46 = .ok (.ireturn, 1) := by decide +kernel
theorem dX4_tell_0 : decode cX4_tell 0 = .ok (.iload_n 1, 1) := by decide +kernel
theorem dX4_tell_1 : decode cX4_tell 1 = .ok (.tableswitch 87 0 7 #[47, 52, 57, 62, 67, 72, 77, 82], 47) := by decide +kernel
theorem dX4_tell_48 : decode cX4_tell 48 = .ok (.aload_n 0, 1) := by decide +kernel
theorem dX4_tell_49 : decode cX4_tell 49 = .ok (.getfield 9, 3) := by decide +kernel
theorem dX4_tell_52 : decode cX4_tell 52 = .ok (.ireturn, 1) := by decide +kernel
theorem dX4_tell_53 : decode cX4_tell 53 = .ok (.aload_n 0, 1) := by decide +kernel
theorem dX4_tell_54 : decode cX4_tell 54 = .ok (.getfield 15, 3) := by decide +kernel
theorem dX4_tell_57 : decode cX4_tell 57 = .ok (.ireturn, 1) := by decide +kernel
theorem dX4_tell_58 : decode cX4_tell 58 = .ok (.aload_n 0, 1) := by decide +kernel
theorem dX4_tell_59 : decode cX4_tell 59 = .ok (.getfield 18, 3) := by decide +kernel
theorem dX4_tell_62 : decode cX4_tell 62 = .ok (.ireturn, 1) := by decide +kernel
theorem dX4_tell_63 : decode cX4_tell 63 = .ok (.aload_n 0, 1) := by decide +kernel
theorem dX4_tell_64 : decode cX4_tell 64 = .ok (.getfield 21, 3) := by decide +kernel
theorem dX4_tell_67 : decode cX4_tell 67 = .ok (.ireturn, 1) := by decide +kernel
theorem dX4_tell_68 : decode cX4_tell 68 = .ok (.aload_n 0, 1) := by decide +kernel
theorem dX4_tell_69 : decode cX4_tell 69 = .ok (.getfield 24, 3) := by decide +kernel
theorem dX4_tell_72 : decode cX4_tell 72 = .ok (.ireturn, 1) := by decide +kernel
theorem dX4_tell_73 : decode cX4_tell 73 = .ok (.aload_n 0, 1) := by decide +kernel
theorem dX4_tell_74 : decode cX4_tell 74 = .ok (.getfield 30, 3) := by decide +kernel
theorem dX4_tell_77 : decode cX4_tell 77 = .ok (.ireturn, 1) := by decide +kernel
theorem dX4_tell_78 : decode cX4_tell 78 = .ok (.aload_n 0, 1) := by decide +kernel
theorem dX4_tell_79 : decode cX4_tell 79 = .ok (.getfield 33, 3) := by decide +kernel
theorem dX4_tell_82 : decode cX4_tell 82 = .ok (.ireturn, 1) := by decide +kernel
theorem dX4_tell_83 : decode cX4_tell 83 = .ok (.aload_n 0, 1) := by decide +kernel
theorem dX4_tell_84 : decode cX4_tell 84 = .ok (.getfield 36, 3) := by decide +kernel
theorem dX4_tell_87 : decode cX4_tell 87 = .ok (.ireturn, 1) := by decide +kernel
theorem dX4_tell_88 : decode cX4_tell 88 = .ok (.ldc 39, 2) := by decide +kernel
theorem dX4_tell_90 : decode cX4_tell 90 = .ok (.ireturn, 1) := by decide +kernel
theorem dX5_init_0 : decode cX5_init 0 = .ok (.aload_n 0, 1) := by decide +kernel
theorem dX5_init_1 : decode cX5_init 1 = .ok (.invokespecial 3, 3) := by decide +kernel
theorem dX5_init_4 : decode cX5_init 4 = .ok (.aload_n 0, 1) := by decide +kernel
theorem dX5_init_5 : decode cX5_init 5 = .ok (.bipush 60, 2) := by decide +kernel
theorem dX5_init_7 : decode cX5_init 7 = .ok (.newarray .char, 2) := by decide +kernel
theorem dX5_init_9 : decode cX5_init 9 = .ok (.putfield 9, 3) := by decide +kernel
theorem dX5_init_12 : decode cX5_init 12 = .ok (.aload_n 0, 1) := by decide +kernel
theorem dX5_init_13 : decode cX5_init 13 = .ok (.iconst 3, 1) := by decide +kernel
theorem dX5_init_14 : decode cX5_init 14 = .ok (.newarray .int, 2) := by decide +kernel
theorem dX5_init_16 : decode cX5_init 16 = .ok (.putfield 15, 3) := by decide +kernel
theorem dX5_init_19 : decode cX5_init 19 = .ok (.return_, 1) := by decide +kernel
theorem dX5_append_0 : decode cX5_append 0 = .ok (.aload_n 0, 1) := by decide +kernel
theorem dX5_append_1 : decode cX5_append 1 = .ok (.getfield 19, 3) := by decide +kernel
theorem dX5_append_4 : decode cX5_append 4 = .ok (.ifCond .lt 15, 3) := by decide +kernel
theorem dX5_append_7 : decode cX5_append 7 = .ok (.aload_n 0, 1) := by decide +kernel
theorem dX5_append_8 : decode cX5_append 8 = .ok (.getfield 19, 3) := by decide +kernel
theorem dX5_append_11 : decode cX5_append 11 = .ok (.aload_n 0, 1) := by decide +kernel
theorem dX5_append_12 : decode cX5_append 12 = .ok (.getfield 9, 3) := by decide +kernel
theorem dX5_append_15 : decode cX5_append 15 = .ok (.arraylength, 1) := by decide +kernel
theorem dX5_append_16 : decode cX5_append 16 = .ok (.if_icmp .lt 6, 3) := by decide +kernel
theorem dX5_append_19 : decode cX5_append 19 = .ok (.ldc 23, 2) := by decide +kernel
theorem dX5_append_21 : decode cX5_append 21 = .ok (.ireturn, 1) := by decide +kernel
theorem dX5_append_22 : decode cX5_append 22 = .ok (.aload_n 0, 1) := by decide +kernel
theorem dX5_append_23 : decode cX5_append 23 = .ok (.getfield 9, 3) := by decide +kernel
theorem dX5_append_26 : decode cX5_append 26 = .ok (.aload_n 0, 1) := by decide +kernel
theorem dX5_append_27 : decode cX5_append 27 = .ok (.getfield 19, 3) := by decide +kernel
theorem dX5_append_30 : decode cX5_append 30 = .ok (.iload_n 1, 1) := by decide +kernel
theorem dX5_append_31 : decode cX5_append 31 = .ok (.castore, 1) := by decide +kernel
theorem dX5_append_32 : decode cX5_append 32 = .ok (.aload_n 0, 1) := by decide +kernel
theorem dX5_append_33 : decode cX5_append 33 = .ok (.dup, 1) := by decide +kernel
theorem dX5_append_34 : decode cX5_append 34 = .ok (.getfield 19, 3) := by decide +kernel
theorem dX5_append_37 : decode cX5_append 37 = .ok (.iconst 1, 1) := by decide +kernel
theorem dX5_append_38 : decode cX5_append 38 = .ok (.iadd, 1) := by decide +kernel
theorem dX5_append_39 : decode cX5_append 39 = .ok (.putfield 19, 3) := by decide +kernel
theorem dX5_append_42 : decode cX5_append 42 = .ok (.aload_n 0, 1) := by decide +kernel
theorem dX5_append_43 : decode cX5_append 43 = .ok (.getfield 19, 3) := by decide +kernel
theorem dX5_append_46 : decode cX5_append 46 = .ok (.ireturn, 1) := by decide +kernel
theorem dX5_empty_0 : decode cX5_empty 0 = .ok (.aload_n 0, 1) := by decide +kernel
theorem dX5_empty_1 : decode cX5_empty 1 = .ok (.getfield 19, 3) := by decide +kernel
theorem dX5_empty_4 : decode cX5_empty 4 = .ok (.istore_n 1, 1) := by decide +kernel
theorem dX5_empty_5 : decode cX5_empty 5 = .ok (.aload_n 0, 1) := by decide +kernel
theorem dX5_empty_6 : decode cX5_empty 6 = .ok (.iconst 0, 1) := by decide +kernel
theorem dX5_empty_7 : decode cX5_empty 7 = .ok (.putfield 19, 3) := by decide +kernel
theorem dX5_empty_10 : decode cX5_empty 10 = .ok (.iload_n 1, 1) := by decide +kernel
theorem dX5_empty_11 : decode cX5_empty 11 = .ok (.ireturn, 1) := by decide +kernel
theorem dX5_rehearse_0 : decode cX5_rehearse 0 = .ok (.iconst 0, 1) := by decide +kernel
theorem dX5_rehearse_1 : decode cX5_rehearse 1 = .ok (.istore_n 2, 1) := by decide +kernel
theorem dX5_rehearse_2 : decode cX5_rehearse 2 = .ok (.aload_n 0, 1) := by decide +kernel
theorem dX5_rehearse_3 : decode cX5_rehearse 3 = .ok (.iconst 0, 1) := by decide +kernel
theorem dX5_rehearse_4 : decode cX5_rehearse 4 = .ok (.putfield 24, 3) := by decide +kernel
theorem dX5_rehearse_7 : decode cX5_rehearse 7 = .ok (.aload_n 0, 1) := by decide +kernel
theorem dX5_rehearse_8 : decode cX5_rehearse 8 = .ok (.iconst 0, 1) := by decide +kernel
theorem dX5_rehearse_9 : decode cX5_rehearse 9 = .ok (.putfield 27, 3) := by decide +kernel
theorem dX5_rehearse_12 : decode cX5_rehearse 12 = .ok (.aload_n 0, 1) := by decide +kernel
theorem dX5_rehearse_13 : decode cX5_rehearse 13 = .ok (.iconst 0, 1) := by decide +kernel
theorem dX5_rehearse_14 : decode cX5_rehearse 14 = .ok (.putfield 30, 3) := by decide +kernel
theorem dX5_rehearse_17 : decode cX5_rehearse 17 = .ok (.iconst 0, 1) := by decide +kernel
theorem dX5_rehearse_18 : decode cX5_rehearse 18 = .ok (.istore_n 3, 1) := by decide +kernel
theorem dX5_rehearse_19 : decode cX5_rehearse 19 = .ok (.iload_n 3, 1) := by decide +kernel
theorem dX5_rehearse_20 : decode cX5_rehearse 20 = .ok (.bipush 60, 2) := by decide +kernel
theorem dX5_rehearse_22 : decode cX5_rehearse 22 = .ok (.if_icmp .ge 83, 3) := by decide +kernel
theorem dX5_rehearse_25 : decode cX5_rehearse 25 = .ok (.aload_n 0, 1) := by decide +kernel
theorem dX5_rehearse_26 : decode cX5_rehearse 26 = .ok (.getfield 24, 3) := by decide +kernel
theorem dX5_rehearse_29 : decode cX5_rehearse 29 = .ok (.aload_n 0, 1) := by decide +kernel
theorem dX5_rehearse_30 : decode cX5_rehearse 30 = .ok (.getfield 19, 3) := by decide +kernel
theorem dX5_rehearse_33 : decode cX5_rehearse 33 = .ok (.if_icmp .ge 72, 3) := by decide +kernel
theorem dX5_rehearse_36 : decode cX5_rehearse 36 = .ok (.aload_n 0, 1) := by decide +kernel
theorem dX5_rehearse_37 : decode cX5_rehearse 37 = .ok (.invokevirtual 33, 3) := by decide +kernel
theorem dX5_rehearse_40 : decode cX5_rehearse 40 = .ok (.ifCond .ne 23, 3) := by decide +kernel
theorem dX5_rehearse_43 : decode cX5_rehearse 43 = .ok (.aload_n 0, 1) := by decide +kernel
theorem dX5_rehearse_44 : decode cX5_rehearse 44 = .ok (.iconst 1, 1) := by decide +kernel
theorem dX5_rehearse_45 : decode cX5_rehearse 45 = .ok (.putfield 27, 3) := by decide +kernel
theorem dX5_rehearse_48 : decode cX5_rehearse 48 = .ok (.aload_n 0, 1) := by decide +kernel
theorem dX5_rehearse_49 : decode cX5_rehearse 49 = .ok (.aload_n 0, 1) := by decide +kernel
theorem dX5_rehearse_50 : decode cX5_rehearse 50 = .ok (.getfield 37, 3) := by decide +kernel
theorem dX5_rehearse_53 : decode cX5_rehearse 53 = .ok (.aload_n 0, 1) := by decide +kernel
theorem dX5_rehearse_54 : decode cX5_rehearse 54 = .ok (.getfield 24, 3) := by decide +kernel
theorem dX5_rehearse_57 : decode cX5_rehearse 57 = .ok (.isub, 1) := by decide +kernel
theorem dX5_rehearse_58 : decode cX5_rehearse 58 = .ok (.putfield 30, 3) := by decide +kernel
theorem dX5_rehearse_61 : decode cX5_rehearse 61 = .ok (.iload_n 2, 1) := by decide +kernel
theorem dX5_rehearse_62 : decode cX5_rehearse 62 = .ok (.ireturn, 1) := by decide +kernel
theorem dX5_rehearse_63 : decode cX5_rehearse 63 = .ok (.aload_n 0, 1) := by decide +kernel
theorem dX5_rehearse_64 : decode cX5_rehearse 64 = .ok (.aload_n 1, 1) := by decide +kernel
theorem dX5_rehearse_65 : decode cX5_rehearse 65 = .ok (.invokevirtual 40, 3) := by decide +kernel
theorem dX5_rehearse_68 : decode cX5_rehearse 68 = .ok (.istore 4, 2) := by decide +kernel
theorem dX5_rehearse_70 : decode cX5_rehearse 70 = .ok (.iload 4, 2) := by decide +kernel
theorem dX5_rehearse_72 : decode cX5_rehearse 72 = .ok (.ifCond .ge 16, 3) := by decide +kernel
theorem dX5_rehearse_75 : decode cX5_rehearse 75 = .ok (.aload_n 0, 1) := by decide +kernel
theorem dX5_rehearse_76 : decode cX5_rehearse 76 = .ok (.iconst 2, 1) := by decide +kernel
theorem dX5_rehearse_77 : decode cX5_rehearse 77 = .ok (.putfield 27, 3) := by decide +kernel
theorem dX5_rehearse_80 : decode cX5_rehearse 80 = .ok (.aload_n 0, 1) := by decide +kernel
theorem dX5_rehearse_81 : decode cX5_rehearse 81 = .ok (.iload 4, 2) := by decide +kernel
theorem dX5_rehearse_83 : decode cX5_rehearse 83 = .ok (.putfield 30, 3) := by decide +kernel
theorem dX5_rehearse_86 : decode cX5_rehearse 86 = .ok (.iload_n 2, 1) := by decide +kernel
theorem dX5_rehearse_87 : decode cX5_rehearse 87 = .ok (.ireturn, 1) := by decide +kernel
theorem dX5_rehearse_88 : decode cX5_rehearse 88 = .ok (.iinc 2 1, 3) := by decide +kernel
theorem dX5_rehearse_91 : decode cX5_rehearse 91 = .ok (.aload_n 0, 1) := by decide +kernel
theorem dX5_rehearse_92 : decode cX5_rehearse 92 = .ok (.aload_n 0, 1) := by decide +kernel
theorem dX5_rehearse_93 : decode cX5_rehearse 93 = .ok (.getfield 37, 3) := by decide +kernel
theorem dX5_rehearse_96 : decode cX5_rehearse 96 = .ok (.putfield 24, 3) := by decide +kernel
theorem dX5_rehearse_99 : decode cX5_rehearse 99 = .ok (.iinc 3 1, 3) := by decide +kernel
theorem dX5_rehearse_102 : decode cX5_rehearse 102 = .ok (.goto (-83), 3) := by decide +kernel
theorem dX5_rehearse_105 : decode cX5_rehearse 105 = .ok (.iload_n 2, 1) := by decide +kernel
theorem dX5_rehearse_106 : decode cX5_rehearse 106 = .ok (.ireturn, 1) := by decide +kernel
theorem dX5_perform_0 : decode cX5_perform 0 = .ok (.aload_n 0, 1) := by decide +kernel
theorem dX5_perform_1 : decode cX5_perform 1 = .ok (.aload_n 0, 1) := by decide +kernel
theorem dX5_perform_2 : decode cX5_perform 2 = .ok (.getfield 24, 3) := by decide +kernel
theorem dX5_perform_5 : decode cX5_perform 5 = .ok (.invokevirtual 44, 3) := by decide +kernel
theorem dX5_perform_8 : decode cX5_perform 8 = .ok (.lookupswitch 99 #[(103, 59), (112, 89), (115, 44), (120, 79)], 44) := by decide +kernel
theorem dX5_perform_52 : decode cX5_perform 52 = .ok (.aload_n 1, 1) := by decide +kernel
theorem dX5_perform_53 : decode cX5_perform 53 = .ok (.aload_n 0, 1) := by decide +kernel
theorem dX5_perform_54 : decode cX5_perform 54 = .ok (.iconst 0, 1) := by decide +kernel
theorem dX5_perform_55 : decode cX5_perform 55 = .ok (.invokevirtual 48, 3) := by decide +kernel
theorem dX5_perform_58 : decode cX5_perform 58 = .ok (.aload_n 0, 1) := by decide +kernel
theorem dX5_perform_59 : decode cX5_perform 59 = .ok (.iconst 1, 1) := by decide +kernel
theorem dX5_perform_60 : decode cX5_perform 60 = .ok (.invokevirtual 48, 3) := by decide +kernel
theorem dX5_perform_63 : decode cX5_perform 63 = .ok (.invokevirtual 51, 3) := by decide +kernel
theorem dX5_perform_66 : decode cX5_perform 66 = .ok (.ireturn, 1) := by decide +kernel
theorem dX5_perform_67 : decode cX5_perform 67 = .ok (.aload_n 1, 1) := by decide +kernel
theorem dX5_perform_68 : decode cX5_perform 68 = .ok (.aload_n 0, 1) := by decide +kernel
theorem dX5_perform_69 : decode cX5_perform 69 = .ok (.iconst 0, 1) := by decide +kernel
theorem dX5_perform_70 : decode cX5_perform 70 = .ok (.invokevirtual 48, 3) := by decide +kernel
theorem dX5_perform_73 : decode cX5_perform 73 = .ok (.aload_n 0, 1) := by decide +kernel
theorem dX5_perform_74 : decode cX5_perform 74 = .ok (.iconst 1, 1) := by decide +kernel
theorem dX5_perform_75 : decode cX5_perform 75 = .ok (.invokevirtual 48, 3) := by decide +kernel
theorem dX5_perform_78 : decode cX5_perform 78 = .ok (.aload_n 0, 1) := by decide +kernel
theorem dX5_perform_79 : decode cX5_perform 79 = .ok (.iconst 2, 1) := by decide +kernel
theorem dX5_perform_80 : decode cX5_perform 80 = .ok (.invokevirtual 48, 3) := by decide +kernel
theorem dX5_perform_83 : decode cX5_perform 83 = .ok (.invokevirtual 57, 3) := by decide +kernel
theorem dX5_perform_86 : decode cX5_perform 86 = .ok (.ireturn, 1) := by decide +kernel
theorem dX5_perform_87 : decode cX5_perform 87 = .ok (.aload_n 1, 1) := by decide +kernel
theorem dX5_perform_88 : decode cX5_perform 88 = .ok (.aload_n 0, 1) := by decide +kernel
theorem dX5_perform_89 : decode cX5_perform 89 = .ok (.iconst 0, 1) := by decide +kernel
theorem dX5_perform_90 : decode cX5_perform 90 = .ok (.invokevirtual 48, 3) := by decide +kernel
theorem dX5_perform_93 : decode cX5_perform 93 = .ok (.invokevirtual 61, 3) := by decide +kernel
theorem dX5_perform_96 : decode cX5_perform 96 = .ok (.ireturn, 1) := by decide +kernel
theorem dX5_perform_97 : decode cX5_perform 97 = .ok (.aload_n 1, 1) := by decide +kernel
theorem dX5_perform_98 : decode cX5_perform 98 = .ok (.aload_n 0, 1) := by decide +kernel
theorem dX5_perform_99 : decode cX5_perform 99 = .ok (.iconst 0, 1) := by decide +kernel
theorem dX5_perform_100 : decode cX5_perform 100 = .ok (.invokevirtual 48, 3) := by decide +kernel
theorem dX5_perform_103 : decode cX5_perform 103 = .ok (.invokevirtual 64, 3) := by decide +kernel
theorem dX5_perform_106 : decode cX5_perform 106 = .ok (.ireturn, 1) := by decide +kernel
theorem dX5_perform_107 : decode cX5_perform 107 = .ok (.aload_n 1, 1) := by decide +kernel
theorem dX5_perform_108 : decode cX5_perform 108 = .ok (.aload_n 0, 1) := by decide +kernel
theorem dX5_perform_109 : decode cX5_perform 109 = .ok (.iconst 0, 1) := by decide +kernel
theorem dX5_perform_110 : decode cX5_perform 110 = .ok (.invokevirtual 48, 3) := by decide +kernel
theorem dX5_perform_113 : decode cX5_perform 113 = .ok (.invokevirtual 67, 3) := by decide +kernel
theorem dX5_perform_116 : decode cX5_perform 116 = .ok (.ireturn, 1) := by decide +kernel
theorem dX5_readOrder_0 : decode cX5_readOrder 0 = .ok (.aload_n 0, 1) := by decide +kernel
theorem dX5_readOrder_1 : decode cX5_readOrder 1 = .ok (.aload_n 0, 1) := by decide +kernel
theorem dX5_readOrder_2 : decode cX5_readOrder 2 = .ok (.getfield 24, 3) := by decide +kernel
theorem dX5_readOrder_5 : decode cX5_readOrder 5 = .ok (.putfield 37, 3) := by decide +kernel
theorem dX5_readOrder_8 : decode cX5_readOrder 8 = .ok (.aload_n 0, 1) := by decide +kernel
theorem dX5_readOrder_9 : decode cX5_readOrder 9 = .ok (.aload_n 0, 1) := by decide +kernel
theorem dX5_readOrder_10 : decode cX5_readOrder 10 = .ok (.getfield 37, 3) := by decide +kernel
theorem dX5_readOrder_13 : decode cX5_readOrder 13 = .ok (.invokevirtual 44, 3) := by decide +kernel
theorem dX5_readOrder_16 : decode cX5_readOrder 16 = .ok (.invokestatic 70, 3) := by decide +kernel
theorem dX5_readOrder_19 : decode cX5_readOrder 19 = .ok (.istore_n 1, 1) := by decide +kernel
theorem dX5_readOrder_20 : decode cX5_readOrder 20 = .ok (.iload_n 1, 1) := by decide +kernel
theorem dX5_readOrder_21 : decode cX5_readOrder 21 = .ok (.ifCond .ne 5, 3) := by decide +kernel
theorem dX5_readOrder_24 : decode cX5_readOrder 24 = .ok (.iconst 0, 1) := by decide +kernel
theorem dX5_readOrder_25 : decode cX5_readOrder 25 = .ok (.ireturn, 1) := by decide +kernel
theorem dX5_readOrder_26 : decode cX5_readOrder 26 = .ok (.aload_n 0, 1) := by decide +kernel
theorem dX5_readOrder_27 : decode cX5_readOrder 27 = .ok (.dup, 1) := by decide +kernel
theorem dX5_readOrder_28 : decode cX5_readOrder 28 = .ok (.getfield 37, 3) := by decide +kernel
theorem dX5_readOrder_31 : decode cX5_readOrder 31 = .ok (.iconst 1, 1) := by decide +kernel
theorem dX5_readOrder_32 : decode cX5_readOrder 32 = .ok (.iadd, 1) := by decide +kernel
theorem dX5_readOrder_33 : decode cX5_readOrder 33 = .ok (.putfield 37, 3) := by decide +kernel
theorem dX5_readOrder_36 : decode cX5_readOrder 36 = .ok (.iconst 0, 1) := by decide +kernel
theorem dX5_readOrder_37 : decode cX5_readOrder 37 = .ok (.istore_n 2, 1) := by decide +kernel
theorem dX5_readOrder_38 : decode cX5_readOrder 38 = .ok (.iload_n 2, 1) := by decide +kernel
theorem dX5_readOrder_39 : decode cX5_readOrder 39 = .ok (.iload_n 1, 1) := by decide +kernel
theorem dX5_readOrder_40 : decode cX5_readOrder 40 = .ok (.if_icmp .ge 54, 3) := by decide +kernel
theorem dX5_readOrder_43 : decode cX5_readOrder 43 = .ok (.aload_n 0, 1) := by decide +kernel
theorem dX5_readOrder_44 : decode cX5_readOrder 44 = .ok (.iload_n 2, 1) := by decide +kernel
theorem dX5_readOrder_45 : decode cX5_readOrder 45 = .ok (.invokevirtual 73, 3) := by decide +kernel
theorem dX5_readOrder_48 : decode cX5_readOrder 48 = .ok (.ifCond .eq 28, 3) := by decide +kernel
theorem dX5_readOrder_51 : decode cX5_readOrder 51 = .ok (.aload_n 0, 1) := by decide +kernel
theorem dX5_readOrder_52 : decode cX5_readOrder 52 = .ok (.aload_n 0, 1) := by decide +kernel
theorem dX5_readOrder_53 : decode cX5_readOrder 53 = .ok (.getfield 37, 3) := by decide +kernel
theorem dX5_readOrder_56 : decode cX5_readOrder 56 = .ok (.invokevirtual 44, 3) := by decide +kernel
theorem dX5_readOrder_59 : decode cX5_readOrder 59 = .ok (.iload_n 2, 1) := by decide +kernel
theorem dX5_readOrder_60 : decode cX5_readOrder 60 = .ok (.iload_n 1, 1) := by decide +kernel
theorem dX5_readOrder_61 : decode cX5_readOrder 61 = .ok (.iconst 1, 1) := by decide +kernel
theorem dX5_readOrder_62 : decode cX5_readOrder 62 = .ok (.isub, 1) := by decide +kernel
theorem dX5_readOrder_63 : decode cX5_readOrder 63 = .ok (.if_icmp .ne 8, 3) := by decide +kernel
theorem dX5_readOrder_66 : decode cX5_readOrder 66 = .ok (.bipush 59, 2) := by decide +kernel
theorem dX5_readOrder_68 : decode cX5_readOrder 68 = .ok (.goto 5, 3) := by decide +kernel
theorem dX5_readOrder_71 : decode cX5_readOrder 71 = .ok (.bipush 44, 2) := by decide +kernel
theorem dX5_readOrder_73 : decode cX5_readOrder 73 = .ok (.if_icmp .eq 5, 3) := by decide +kernel
theorem dX5_readOrder_76 : decode cX5_readOrder 76 = .ok (.iconst 0, 1) := by decide +kernel
theorem dX5_readOrder_77 : decode cX5_readOrder 77 = .ok (.ireturn, 1) := by decide +kernel
theorem dX5_readOrder_78 : decode cX5_readOrder 78 = .ok (.aload_n 0, 1) := by decide +kernel
theorem dX5_readOrder_79 : decode cX5_readOrder 79 = .ok (.dup, 1) := by decide +kernel
theorem dX5_readOrder_80 : decode cX5_readOrder 80 = .ok (.getfield 37, 3) := by decide +kernel
theorem dX5_readOrder_83 : decode cX5_readOrder 83 = .ok (.iconst 1, 1) := by decide +kernel
theorem dX5_readOrder_84 : decode cX5_readOrder 84 = .ok (.iadd, 1) := by decide +kernel
theorem dX5_readOrder_85 : decode cX5_readOrder 85 = .ok (.putfield 37, 3) := by decide +kernel
theorem dX5_readOrder_88 : decode cX5_readOrder 88 = .ok (.iinc 2 1, 3) := by decide +kernel
theorem dX5_readOrder_91 : decode cX5_readOrder 91 = .ok (.goto (-53), 3) := by decide +kernel
theorem dX5_readOrder_94 : decode cX5_readOrder 94 = .ok (.iconst 1, 1) := by decide +kernel
theorem dX5_readOrder_95 : decode cX5_readOrder 95 = .ok (.ireturn, 1) := by decide +kernel
theorem dX5_partsOf_0 : decode cX5_partsOf 0 = .ok (.iload_n 0, 1) := by decide +kernel
theorem dX5_partsOf_1 : decode cX5_partsOf 1 = .ok (.lookupswitch 57 #[(100, 55), (103, 53), (112, 55), (115, 51), (120, 55)], 51) := by decide +kernel
theorem dX5_partsOf_52 : decode cX5_partsOf 52 = .ok (.iconst 2, 1) := by decide +kernel
theorem dX5_partsOf_53 : decode cX5_partsOf 53 = .ok (.ireturn, 1) := by decide +kernel
theorem dX5_partsOf_54 : decode cX5_partsOf 54 = .ok (.iconst 3, 1) := by decide +kernel
theorem dX5_partsOf_55 : decode cX5_partsOf 55 = .ok (.ireturn, 1) := by decide +kernel
theorem dX5_partsOf_56 : decode cX5_partsOf 56 = .ok (.iconst 1, 1) := by decide +kernel
theorem dX5_partsOf_57 : decode cX5_partsOf 57 = .ok (.ireturn, 1) := by decide +kernel
theorem dX5_partsOf_58 : decode cX5_partsOf 58 = .ok (.iconst 0, 1) := by decide +kernel
theorem dX5_partsOf_59 : decode cX5_partsOf 59 = .ok (.ireturn, 1) := by decide +kernel
theorem dX5_readNumber_0 : decode cX5_readNumber 0 = .ok (.iconst 0, 1) := by decide +kernel
theorem dX5_readNumber_1 : decode cX5_readNumber 1 = .ok (.istore_n 2, 1) := by decide +kernel
theorem dX5_readNumber_2 : decode cX5_readNumber 2 = .ok (.iconst 0, 1) := by decide +kernel
theorem dX5_readNumber_3 : decode cX5_readNumber 3 = .ok (.istore_n 3, 1) := by decide +kernel
theorem dX5_readNumber_4 : decode cX5_readNumber 4 = .ok (.iload_n 3, 1) := by decide +kernel
theorem dX5_readNumber_5 : decode cX5_readNumber 5 = .ok (.iconst 3, 1) := by decide +kernel
theorem dX5_readNumber_6 : decode cX5_readNumber 6 = .ok (.if_icmp .ge 54, 3) := by decide +kernel
theorem dX5_readNumber_9 : decode cX5_readNumber 9 = .ok (.aload_n 0, 1) := by decide +kernel
theorem dX5_readNumber_10 : decode cX5_readNumber 10 = .ok (.aload_n 0, 1) := by decide +kernel
theorem dX5_readNumber_11 : decode cX5_readNumber 11 = .ok (.getfield 37, 3) := by decide +kernel
theorem dX5_readNumber_14 : decode cX5_readNumber 14 = .ok (.invokevirtual 44, 3) := by decide +kernel
theorem dX5_readNumber_17 : decode cX5_readNumber 17 = .ok (.bipush 48, 2) := by decide +kernel
theorem dX5_readNumber_19 : decode cX5_readNumber 19 = .ok (.bipush 57, 2) := by decide +kernel
theorem dX5_readNumber_21 : decode cX5_readNumber 21 = .ok (.invokestatic 77, 3) := by decide +kernel
theorem dX5_readNumber_24 : decode cX5_readNumber 24 = .ok (.ifCond .eq 36, 3) := by decide +kernel
theorem dX5_readNumber_27 : decode cX5_readNumber 27 = .ok (.iload_n 2, 1) := by decide +kernel
theorem dX5_readNumber_28 : decode cX5_readNumber 28 = .ok (.bipush 10, 2) := by decide +kernel
theorem dX5_readNumber_30 : decode cX5_readNumber 30 = .ok (.imul, 1) := by decide +kernel
theorem dX5_readNumber_31 : decode cX5_readNumber 31 = .ok (.aload_n 0, 1) := by decide +kernel
theorem dX5_readNumber_32 : decode cX5_readNumber 32 = .ok (.aload_n 0, 1) := by decide +kernel
theorem dX5_readNumber_33 : decode cX5_readNumber 33 = .ok (.getfield 37, 3) := by decide +kernel
theorem dX5_readNumber_36 : decode cX5_readNumber 36 = .ok (.invokevirtual 44, 3) := by decide +kernel
theorem dX5_readNumber_39 : decode cX5_readNumber 39 = .ok (.bipush 48, 2) := by decide +kernel
theorem dX5_readNumber_41 : decode cX5_readNumber 41 = .ok (.isub, 1) := by decide +kernel
theorem dX5_readNumber_42 : decode cX5_readNumber 42 = .ok (.iadd, 1) := by decide +kernel
theorem dX5_readNumber_43 : decode cX5_readNumber 43 = .ok (.istore_n 2, 1) := by decide +kernel
theorem dX5_readNumber_44 : decode cX5_readNumber 44 = .ok (.iinc 3 1, 3) := by decide +kernel
theorem dX5_readNumber_47 : decode cX5_readNumber 47 = .ok (.aload_n 0, 1) := by decide +kernel
theorem dX5_readNumber_48 : decode cX5_readNumber 48 = .ok (.dup, 1) := by decide +kernel
theorem dX5_readNumber_49 : decode cX5_readNumber 49 = .ok (.getfield 37, 3) := by decide +kernel
theorem dX5_readNumber_52 : decode cX5_readNumber 52 = .ok (.iconst 1, 1) := by decide +kernel
theorem dX5_readNumber_53 : decode cX5_readNumber 53 = .ok (.iadd, 1) := by decide +kernel
theorem dX5_readNumber_54 : decode cX5_readNumber 54 = .ok (.putfield 37, 3) := by decide +kernel
theorem dX5_readNumber_57 : decode cX5_readNumber 57 = .ok (.goto (-53), 3) := by decide +kernel
theorem dX5_readNumber_60 : decode cX5_readNumber 60 = .ok (.iload_n 1, 1) := by decide +kernel
theorem dX5_readNumber_61 : decode cX5_readNumber 61 = .ok (.ifCond .lt 19, 3) := by decide +kernel
theorem dX5_readNumber_64 : decode cX5_readNumber 64 = .ok (.iload_n 1, 1) := by decide +kernel
theorem dX5_readNumber_65 : decode cX5_readNumber 65 = .ok (.aload_n 0, 1) := by decide +kernel
theorem dX5_readNumber_66 : decode cX5_readNumber 66 = .ok (.getfield 15, 3) := by decide +kernel
theorem dX5_readNumber_69 : decode cX5_readNumber 69 = .ok (.arraylength, 1) := by decide +kernel
theorem dX5_readNumber_70 : decode cX5_readNumber 70 = .ok (.if_icmp .ge 10, 3) := by decide +kernel
theorem dX5_readNumber_73 : decode cX5_readNumber 73 = .ok (.aload_n 0, 1) := by decide +kernel
theorem dX5_readNumber_74 : decode cX5_readNumber 74 = .ok (.getfield 15, 3) := by decide +kernel
theorem dX5_readNumber_77 : decode cX5_readNumber 77 = .ok (.iload_n 1, 1) := by decide +kernel
theorem dX5_readNumber_78 : decode cX5_readNumber 78 = .ok (.iload_n 2, 1) := by decide +kernel
theorem dX5_readNumber_79 : decode cX5_readNumber 79 = .ok (.iastore, 1) := by decide +kernel
theorem dX5_readNumber_80 : decode cX5_readNumber 80 = .ok (.iload_n 3, 1) := by decide +kernel
theorem dX5_readNumber_81 : decode cX5_readNumber 81 = .ok (.ifCond .le 7, 3) := by decide +kernel
theorem dX5_readNumber_84 : decode cX5_readNumber 84 = .ok (.iconst 1, 1) := by decide +kernel
theorem dX5_readNumber_85 : decode cX5_readNumber 85 = .ok (.goto 4, 3) := by decide +kernel
theorem dX5_readNumber_88 : decode cX5_readNumber 88 = .ok (.iconst 0, 1) := by decide +kernel
theorem dX5_readNumber_89 : decode cX5_readNumber 89 = .ok (.ireturn, 1) := by decide +kernel
theorem dX5_signAt_0 : decode cX5_signAt 0 = .ok (.iload_n 1, 1) := by decide +kernel
theorem dX5_signAt_1 : decode cX5_signAt 1 = .ok (.ifCond .lt 29, 3) := by decide +kernel
theorem dX5_signAt_4 : decode cX5_signAt 4 = .ok (.iload_n 1, 1) := by decide +kernel
theorem dX5_signAt_5 : decode cX5_signAt 5 = .ok (.aload_n 0, 1) := by decide +kernel
theorem dX5_signAt_6 : decode cX5_signAt 6 = .ok (.getfield 19, 3) := by decide +kernel
theorem dX5_signAt_9 : decode cX5_signAt 9 = .ok (.if_icmp .ge 21, 3) := by decide +kernel
theorem dX5_signAt_12 : decode cX5_signAt 12 = .ok (.iload_n 1, 1) := by decide +kernel
theorem dX5_signAt_13 : decode cX5_signAt 13 = .ok (.aload_n 0, 1) := by decide +kernel
theorem dX5_signAt_14 : decode cX5_signAt 14 = .ok (.getfield 9, 3) := by decide +kernel
theorem dX5_signAt_17 : decode cX5_signAt 17 = .ok (.arraylength, 1) := by decide +kernel
theorem dX5_signAt_18 : decode cX5_signAt 18 = .ok (.if_icmp .ge 12, 3) := by decide +kernel
theorem dX5_signAt_21 : decode cX5_signAt 21 = .ok (.aload_n 0, 1) := by decide +kernel
theorem dX5_signAt_22 : decode cX5_signAt 22 = .ok (.getfield 9, 3) := by decide +kernel
theorem dX5_signAt_25 : decode cX5_signAt 25 = .ok (.iload_n 1, 1) := by decide +kernel
theorem dX5_signAt_26 : decode cX5_signAt 26 = .ok (.caload, 1) := by decide +kernel
theorem dX5_signAt_27 : decode cX5_signAt 27 = .ok (.goto 4, 3) := by decide +kernel
theorem dX5_signAt_30 : decode cX5_signAt 30 = .ok (.iconst (-1), 1) := by decide +kernel
theorem dX5_signAt_31 : decode cX5_signAt 31 = .ok (.ireturn, 1) := by decide +kernel
theorem dX5_numberAt_0 : decode cX5_numberAt 0 = .ok (.iload_n 1, 1) := by decide +kernel
theorem dX5_numberAt_1 : decode cX5_numberAt 1 = .ok (.ifCond .lt 21, 3) := by decide +kernel
theorem dX5_numberAt_4 : decode cX5_numberAt 4 = .ok (.iload_n 1, 1) := by decide +kernel
theorem dX5_numberAt_5 : decode cX5_numberAt 5 = .ok (.aload_n 0, 1) := by decide +kernel
theorem dX5_numberAt_6 : decode cX5_numberAt 6 = .ok (.getfield 15, 3) := by decide +kernel
theorem dX5_numberAt_9 : decode cX5_numberAt 9 = .ok (.arraylength, 1) := by decide +kernel
theorem dX5_numberAt_10 : decode cX5_numberAt 10 = .ok (.if_icmp .ge 12, 3) := by decide +kernel
theorem dX5_numberAt_13 : decode cX5_numberAt 13 = .ok (.aload_n 0, 1) := by decide +kernel
theorem dX5_numberAt_14 : decode cX5_numberAt 14 = .ok (.getfield 15, 3) := by decide +kernel
theorem dX5_numberAt_17 : decode cX5_numberAt 17 = .ok (.iload_n 1, 1) := by decide +kernel
theorem dX5_numberAt_18 : decode cX5_numberAt 18 = .ok (.iaload, 1) := by decide +kernel
theorem dX5_numberAt_19 : decode cX5_numberAt 19 = .ok (.goto 4, 3) := by decide +kernel
theorem dX5_numberAt_22 : decode cX5_numberAt 22 = .ok (.iconst 0, 1) := by decide +kernel
theorem dX5_numberAt_23 : decode cX5_numberAt 23 = .ok (.ireturn, 1) := by decide +kernel
theorem dX6_init_0 : decode cX6_init 0 = .ok (.aload_n 0, 1) := by decide +kernel
theorem dX6_init_1 : decode cX6_init 1 = .ok (.invokespecial 3, 3) := by decide +kernel
theorem dX6_init_4 : decode cX6_init 4 = .ok (.aload_n 0, 1) := by decide +kernel
theorem dX6_init_5 : decode cX6_init 5 = .ok (.iconst 2, 1) := by decide +kernel
theorem dX6_init_6 : decode cX6_init 6 = .ok (.putfield 9, 3) := by decide +kernel
theorem dX6_init_9 : decode cX6_init 9 = .ok (.aload_n 0, 1) := by decide +kernel
theorem dX6_init_10 : decode cX6_init 10 = .ok (.bipush 100, 2) := by decide +kernel
theorem dX6_init_12 : decode cX6_init 12 = .ok (.putfield 15, 3) := by decide +kernel
theorem dX6_init_15 : decode cX6_init 15 = .ok (.aload_n 0, 1) := by decide +kernel
theorem dX6_init_16 : decode cX6_init 16 = .ok (.iconst 3, 1) := by decide +kernel
theorem dX6_init_17 : decode cX6_init 17 = .ok (.putfield 18, 3) := by decide +kernel
theorem dX6_init_20 : decode cX6_init 20 = .ok (.aload_n 0, 1) := by decide +kernel
end
section
theorem dX6_init_21 : decode cX6_init 21 = .ok (.bipush 10, 2) := by decide +kernel
theorem dX6_init_23 : decode cX6_init 23 = .ok (.putfield 21, 3) := by decide +kernel
theorem dX6_init_26 : decode cX6_init 26 = .ok (.return_, 1) := by decide +kernel
theorem dX6_copyFrom_0 : decode cX6_copyFrom 0 = .ok (.aload_n 0, 1) := by decide +kernel
theorem dX6_copyFrom_1 : decode cX6_copyFrom 1 = .ok (.aload_n 1, 1) := by decide +kernel
theorem dX6_copyFrom_2 : decode cX6_copyFrom 2 = .ok (.getfield 9, 3) := by decide +kernel
theorem dX6_copyFrom_5 : decode cX6_copyFrom 5 = .ok (.putfield 9, 3) := by decide +kernel
theorem dX6_copyFrom_8 : decode cX6_copyFrom 8 = .ok (.aload_n 0, 1) := by decide +kernel
theorem dX6_copyFrom_9 : decode cX6_copyFrom 9 = .ok (.aload_n 1, 1) := by decide +kernel
theorem dX6_copyFrom_10 : decode cX6_copyFrom 10 = .ok (.getfield 15, 3) := by decide +kernel
theorem dX6_copyFrom_13 : decode cX6_copyFrom 13 = .ok (.putfield 15, 3) := by decide +kernel
theorem dX6_copyFrom_16 : decode cX6_copyFrom 16 = .ok (.aload_n 0, 1) := by decide +kernel
theorem dX6_copyFrom_17 : decode cX6_copyFrom 17 = .ok (.aload_n 1, 1) := by decide +kernel
theorem dX6_copyFrom_18 : decode cX6_copyFrom 18 = .ok (.getfield 18, 3) := by decide +kernel
theorem dX6_copyFrom_21 : decode cX6_copyFrom 21 = .ok (.putfield 18, 3) := by decide +kernel
theorem dX6_copyFrom_24 : decode cX6_copyFrom 24 = .ok (.aload_n 0, 1) := by decide +kernel
theorem dX6_copyFrom_25 : decode cX6_copyFrom 25 = .ok (.aload_n 1, 1) := by decide +kernel
theorem dX6_copyFrom_26 : decode cX6_copyFrom 26 = .ok (.getfield 21, 3) := by decide +kernel
theorem dX6_copyFrom_29 : decode cX6_copyFrom 29 = .ok (.putfield 21, 3) := by decide +kernel
theorem dX6_copyFrom_32 : decode cX6_copyFrom 32 = .ok (.return_, 1) := by decide +kernel
theorem dX6_tell_0 : decode cX6_tell 0 = .ok (.iload_n 1, 1) := by decide +kernel
theorem dX6_tell_1 : decode cX6_tell 1 = .ok (.tableswitch 51 0 3 #[31, 36, 41, 46], 31) := by decide +kernel
theorem dX6_tell_32 : decode cX6_tell 32 = .ok (.aload_n 0, 1) := by decide +kernel
theorem dX6_tell_33 : decode cX6_tell 33 = .ok (.getfield 9, 3) := by decide +kernel
theorem dX6_tell_36 : decode cX6_tell 36 = .ok (.ireturn, 1) := by decide +kernel
theorem dX6_tell_37 : decode cX6_tell 37 = .ok (.aload_n 0, 1) := by decide +kernel
theorem dX6_tell_38 : decode cX6_tell 38 = .ok (.getfield 15, 3) := by decide +kernel
theorem dX6_tell_41 : decode cX6_tell 41 = .ok (.ireturn, 1) := by decide +kernel
theorem dX6_tell_42 : decode cX6_tell 42 = .ok (.aload_n 0, 1) := by decide +kernel
theorem dX6_tell_43 : decode cX6_tell 43 = .ok (.getfield 18, 3) := by decide +kernel
theorem dX6_tell_46 : decode cX6_tell 46 = .ok (.ireturn, 1) := by decide +kernel
theorem dX6_tell_47 : decode cX6_tell 47 = .ok (.aload_n 0, 1) := by decide +kernel
theorem dX6_tell_48 : decode cX6_tell 48 = .ok (.getfield 21, 3) := by decide +kernel
theorem dX6_tell_51 : decode cX6_tell 51 = .ok (.ireturn, 1) := by decide +kernel
theorem dX6_tell_52 : decode cX6_tell 52 = .ok (.ldc 24, 2) := by decide +kernel
theorem dX6_tell_54 : decode cX6_tell 54 = .ok (.ireturn, 1) := by decide +kernel
theorem dX6_change_0 : decode cX6_change 0 = .ok (.iload_n 1, 1) := by decide +kernel
theorem dX6_change_1 : decode cX6_change 1 = .ok (.ifCond .lt 36, 3) := by decide +kernel
theorem dX6_change_4 : decode cX6_change 4 = .ok (.iload_n 1, 1) := by decide +kernel
theorem dX6_change_5 : decode cX6_change 5 = .ok (.getstatic 25, 3) := by decide +kernel
theorem dX6_change_8 : decode cX6_change 8 = .ok (.arraylength, 1) := by decide +kernel
theorem dX6_change_9 : decode cX6_change 9 = .ok (.if_icmp .ge 28, 3) := by decide +kernel
theorem dX6_change_12 : decode cX6_change 12 = .ok (.iload_n 1, 1) := by decide +kernel
theorem dX6_change_13 : decode cX6_change 13 = .ok (.getstatic 29, 3) := by decide +kernel
theorem dX6_change_16 : decode cX6_change 16 = .ok (.arraylength, 1) := by decide +kernel
theorem dX6_change_17 : decode cX6_change 17 = .ok (.if_icmp .ge 20, 3) := by decide +kernel
theorem dX6_change_20 : decode cX6_change 20 = .ok (.iload_n 2, 1) := by decide +kernel
theorem dX6_change_21 : decode cX6_change 21 = .ok (.getstatic 25, 3) := by decide +kernel
theorem dX6_change_24 : decode cX6_change 24 = .ok (.iload_n 1, 1) := by decide +kernel
theorem dX6_change_25 : decode cX6_change 25 = .ok (.iaload, 1) := by decide +kernel
theorem dX6_change_26 : decode cX6_change 26 = .ok (.getstatic 29, 3) := by decide +kernel
theorem dX6_change_29 : decode cX6_change 29 = .ok (.iload_n 1, 1) := by decide +kernel
theorem dX6_change_30 : decode cX6_change 30 = .ok (.iaload, 1) := by decide +kernel
theorem dX6_change_31 : decode cX6_change 31 = .ok (.invokestatic 32, 3) := by decide +kernel
theorem dX6_change_34 : decode cX6_change 34 = .ok (.ifCond .ne 6, 3) := by decide +kernel
theorem dX6_change_37 : decode cX6_change 37 = .ok (.ldc 24, 2) := by decide +kernel
theorem dX6_change_39 : decode cX6_change 39 = .ok (.ireturn, 1) := by decide +kernel
theorem dX6_change_40 : decode cX6_change 40 = .ok (.aload_n 0, 1) := by decide +kernel
theorem dX6_change_41 : decode cX6_change 41 = .ok (.iload_n 1, 1) := by decide +kernel
theorem dX6_change_42 : decode cX6_change 42 = .ok (.invokevirtual 36, 3) := by decide +kernel
theorem dX6_change_45 : decode cX6_change 45 = .ok (.istore_n 3, 1) := by decide +kernel
theorem dX6_change_46 : decode cX6_change 46 = .ok (.iload_n 1, 1) := by decide +kernel
theorem dX6_change_47 : decode cX6_change 47 = .ok (.tableswitch 49 0 2 #[25, 33, 41], 25) := by decide +kernel
theorem dX6_change_72 : decode cX6_change 72 = .ok (.aload_n 0, 1) := by decide +kernel
theorem dX6_change_73 : decode cX6_change 73 = .ok (.iload_n 2, 1) := by decide +kernel
theorem dX6_change_74 : decode cX6_change 74 = .ok (.putfield 9, 3) := by decide +kernel
theorem dX6_change_77 : decode cX6_change 77 = .ok (.goto 24, 3) := by decide +kernel
theorem dX6_change_80 : decode cX6_change 80 = .ok (.aload_n 0, 1) := by decide +kernel
theorem dX6_change_81 : decode cX6_change 81 = .ok (.iload_n 2, 1) := by decide +kernel
theorem dX6_change_82 : decode cX6_change 82 = .ok (.putfield 15, 3) := by decide +kernel
theorem dX6_change_85 : decode cX6_change 85 = .ok (.goto 16, 3) := by decide +kernel
theorem dX6_change_88 : decode cX6_change 88 = .ok (.aload_n 0, 1) := by decide +kernel
theorem dX6_change_89 : decode cX6_change 89 = .ok (.iload_n 2, 1) := by decide +kernel
theorem dX6_change_90 : decode cX6_change 90 = .ok (.putfield 18, 3) := by decide +kernel
theorem dX6_change_93 : decode cX6_change 93 = .ok (.goto 8, 3) := by decide +kernel
theorem dX6_change_96 : decode cX6_change 96 = .ok (.aload_n 0, 1) := by decide +kernel
theorem dX6_change_97 : decode cX6_change 97 = .ok (.iload_n 2, 1) := by decide +kernel
theorem dX6_change_98 : decode cX6_change 98 = .ok (.putfield 21, 3) := by decide +kernel
theorem dX6_change_101 : decode cX6_change 101 = .ok (.iload_n 3, 1) := by decide +kernel
theorem dX6_change_102 : decode cX6_change 102 = .ok (.ireturn, 1) := by decide +kernel
theorem dX7_init_0 : decode cX7_init 0 = .ok (.aload_n 0, 1) := by decide +kernel
theorem dX7_init_1 : decode cX7_init 1 = .ok (.invokespecial 3, 3) := by decide +kernel
theorem dX7_init_4 : decode cX7_init 4 = .ok (.aload_n 0, 1) := by decide +kernel
theorem dX7_init_5 : decode cX7_init 5 = .ok (.bipush 21, 2) := by decide +kernel
theorem dX7_init_7 : decode cX7_init 7 = .ok (.newarray .int, 2) := by decide +kernel
theorem dX7_init_9 : decode cX7_init 9 = .ok (.putfield 9, 3) := by decide +kernel
theorem dX7_init_12 : decode cX7_init 12 = .ok (.return_, 1) := by decide +kernel
theorem dX7_copyFrom_0 : decode cX7_copyFrom 0 = .ok (.iconst 0, 1) := by decide +kernel
theorem dX7_copyFrom_1 : decode cX7_copyFrom 1 = .ok (.istore_n 2, 1) := by decide +kernel
theorem dX7_copyFrom_2 : decode cX7_copyFrom 2 = .ok (.iload_n 2, 1) := by decide +kernel
theorem dX7_copyFrom_3 : decode cX7_copyFrom 3 = .ok (.aload_n 0, 1) := by decide +kernel
theorem dX7_copyFrom_4 : decode cX7_copyFrom 4 = .ok (.getfield 9, 3) := by decide +kernel
theorem dX7_copyFrom_7 : decode cX7_copyFrom 7 = .ok (.arraylength, 1) := by decide +kernel
theorem dX7_copyFrom_8 : decode cX7_copyFrom 8 = .ok (.if_icmp .ge 30, 3) := by decide +kernel
theorem dX7_copyFrom_11 : decode cX7_copyFrom 11 = .ok (.iload_n 2, 1) := by decide +kernel
theorem dX7_copyFrom_12 : decode cX7_copyFrom 12 = .ok (.aload_n 1, 1) := by decide +kernel
theorem dX7_copyFrom_13 : decode cX7_copyFrom 13 = .ok (.getfield 9, 3) := by decide +kernel
theorem dX7_copyFrom_16 : decode cX7_copyFrom 16 = .ok (.arraylength, 1) := by decide +kernel
theorem dX7_copyFrom_17 : decode cX7_copyFrom 17 = .ok (.if_icmp .ge 21, 3) := by decide +kernel
theorem dX7_copyFrom_20 : decode cX7_copyFrom 20 = .ok (.aload_n 0, 1) := by decide +kernel
theorem dX7_copyFrom_21 : decode cX7_copyFrom 21 = .ok (.getfield 9, 3) := by decide +kernel
theorem dX7_copyFrom_24 : decode cX7_copyFrom 24 = .ok (.iload_n 2, 1) := by decide +kernel
theorem dX7_copyFrom_25 : decode cX7_copyFrom 25 = .ok (.aload_n 1, 1) := by decide +kernel
theorem dX7_copyFrom_26 : decode cX7_copyFrom 26 = .ok (.getfield 9, 3) := by decide +kernel
theorem dX7_copyFrom_29 : decode cX7_copyFrom 29 = .ok (.iload_n 2, 1) := by decide +kernel
theorem dX7_copyFrom_30 : decode cX7_copyFrom 30 = .ok (.iaload, 1) := by decide +kernel
theorem dX7_copyFrom_31 : decode cX7_copyFrom 31 = .ok (.iastore, 1) := by decide +kernel
theorem dX7_copyFrom_32 : decode cX7_copyFrom 32 = .ok (.iinc 2 1, 3) := by decide +kernel
theorem dX7_copyFrom_35 : decode cX7_copyFrom 35 = .ok (.goto (-33), 3) := by decide +kernel
theorem dX7_copyFrom_38 : decode cX7_copyFrom 38 = .ok (.return_, 1) := by decide +kernel
theorem dX7_howMany_0 : decode cX7_howMany 0 = .ok (.iconst 0, 1) := by decide +kernel
theorem dX7_howMany_1 : decode cX7_howMany 1 = .ok (.istore_n 3, 1) := by decide +kernel
theorem dX7_howMany_2 : decode cX7_howMany 2 = .ok (.iconst 0, 1) := by decide +kernel
theorem dX7_howMany_3 : decode cX7_howMany 3 = .ok (.istore 4, 2) := by decide +kernel
theorem dX7_howMany_5 : decode cX7_howMany 5 = .ok (.iload 4, 2) := by decide +kernel
theorem dX7_howMany_7 : decode cX7_howMany 7 = .ok (.aload_n 0, 1) := by decide +kernel
theorem dX7_howMany_8 : decode cX7_howMany 8 = .ok (.getfield 9, 3) := by decide +kernel
theorem dX7_howMany_11 : decode cX7_howMany 11 = .ok (.arraylength, 1) := by decide +kernel
theorem dX7_howMany_12 : decode cX7_howMany 12 = .ok (.if_icmp .ge 31, 3) := by decide +kernel
theorem dX7_howMany_15 : decode cX7_howMany 15 = .ok (.iload 4, 2) := by decide +kernel
theorem dX7_howMany_17 : decode cX7_howMany 17 = .ok (.iload_n 1, 1) := by decide +kernel
theorem dX7_howMany_18 : decode cX7_howMany 18 = .ok (.if_icmp .lt 19, 3) := by decide +kernel
theorem dX7_howMany_21 : decode cX7_howMany 21 = .ok (.iload 4, 2) := by decide +kernel
theorem dX7_howMany_23 : decode cX7_howMany 23 = .ok (.iload_n 2, 1) := by decide +kernel
theorem dX7_howMany_24 : decode cX7_howMany 24 = .ok (.if_icmp .gt 13, 3) := by decide +kernel
theorem dX7_howMany_27 : decode cX7_howMany 27 = .ok (.iload_n 3, 1) := by decide +kernel
theorem dX7_howMany_28 : decode cX7_howMany 28 = .ok (.aload_n 0, 1) := by decide +kernel
theorem dX7_howMany_29 : decode cX7_howMany 29 = .ok (.getfield 9, 3) := by decide +kernel
theorem dX7_howMany_32 : decode cX7_howMany 32 = .ok (.iload 4, 2) := by decide +kernel
theorem dX7_howMany_34 : decode cX7_howMany 34 = .ok (.iaload, 1) := by decide +kernel
theorem dX7_howMany_35 : decode cX7_howMany 35 = .ok (.iadd, 1) := by decide +kernel
theorem dX7_howMany_36 : decode cX7_howMany 36 = .ok (.istore_n 3, 1) := by decide +kernel
theorem dX7_howMany_37 : decode cX7_howMany 37 = .ok (.iinc 4 1, 3) := by decide +kernel
theorem dX7_howMany_40 : decode cX7_howMany 40 = .ok (.goto (-35), 3) := by decide +kernel
theorem dX7_howMany_43 : decode cX7_howMany 43 = .ok (.iload_n 3, 1) := by decide +kernel
theorem dX7_howMany_44 : decode cX7_howMany 44 = .ok (.ireturn, 1) := by decide +kernel
theorem dX7_agesTogether_0 : decode cX7_agesTogether 0 = .ok (.iconst 0, 1) := by decide +kernel
theorem dX7_agesTogether_1 : decode cX7_agesTogether 1 = .ok (.istore_n 1, 1) := by decide +kernel
theorem dX7_agesTogether_2 : decode cX7_agesTogether 2 = .ok (.iconst 0, 1) := by decide +kernel
theorem dX7_agesTogether_3 : decode cX7_agesTogether 3 = .ok (.istore_n 2, 1) := by decide +kernel
theorem dX7_agesTogether_4 : decode cX7_agesTogether 4 = .ok (.iload_n 2, 1) := by decide +kernel
theorem dX7_agesTogether_5 : decode cX7_agesTogether 5 = .ok (.aload_n 0, 1) := by decide +kernel
theorem dX7_agesTogether_6 : decode cX7_agesTogether 6 = .ok (.getfield 9, 3) := by decide +kernel
theorem dX7_agesTogether_9 : decode cX7_agesTogether 9 = .ok (.arraylength, 1) := by decide +kernel
theorem dX7_agesTogether_10 : decode cX7_agesTogether 10 = .ok (.if_icmp .ge 20, 3) := by decide +kernel
theorem dX7_agesTogether_13 : decode cX7_agesTogether 13 = .ok (.iload_n 1, 1) := by decide +kernel
theorem dX7_agesTogether_14 : decode cX7_agesTogether 14 = .ok (.iload_n 2, 1) := by decide +kernel
theorem dX7_agesTogether_15 : decode cX7_agesTogether 15 = .ok (.aload_n 0, 1) := by decide +kernel
theorem dX7_agesTogether_16 : decode cX7_agesTogether 16 = .ok (.getfield 9, 3) := by decide +kernel
theorem dX7_agesTogether_19 : decode cX7_agesTogether 19 = .ok (.iload_n 2, 1) := by decide +kernel
theorem dX7_agesTogether_20 : decode cX7_agesTogether 20 = .ok (.iaload, 1) := by decide +kernel
theorem dX7_agesTogether_21 : decode cX7_agesTogether 21 = .ok (.imul, 1) := by decide +kernel
theorem dX7_agesTogether_22 : decode cX7_agesTogether 22 = .ok (.iadd, 1) := by decide +kernel
theorem dX7_agesTogether_23 : decode cX7_agesTogether 23 = .ok (.istore_n 1, 1) := by decide +kernel
theorem dX7_agesTogether_24 : decode cX7_agesTogether 24 = .ok (.iinc 2 1, 3) := by decide +kernel
theorem dX7_agesTogether_27 : decode cX7_agesTogether 27 = .ok (.goto (-23), 3) := by decide +kernel
theorem dX7_agesTogether_30 : decode cX7_agesTogether 30 = .ok (.iload_n 1, 1) := by decide +kernel
theorem dX7_agesTogether_31 : decode cX7_agesTogether 31 = .ok (.ireturn, 1) := by decide +kernel
theorem dX7_store_0 : decode cX7_store 0 = .ok (.iload_n 1, 1) := by decide +kernel
theorem dX7_store_1 : decode cX7_store 1 = .ok (.ifCond .lt 22, 3) := by decide +kernel
theorem dX7_store_4 : decode cX7_store 4 = .ok (.iload_n 1, 1) := by decide +kernel
theorem dX7_store_5 : decode cX7_store 5 = .ok (.aload_n 0, 1) := by decide +kernel
theorem dX7_store_6 : decode cX7_store 6 = .ok (.getfield 9, 3) := by decide +kernel
theorem dX7_store_9 : decode cX7_store 9 = .ok (.arraylength, 1) := by decide +kernel
theorem dX7_store_10 : decode cX7_store 10 = .ok (.if_icmp .ge 13, 3) := by decide +kernel
theorem dX7_store_13 : decode cX7_store 13 = .ok (.aload_n 0, 1) := by decide +kernel
theorem dX7_store_14 : decode cX7_store 14 = .ok (.getfield 9, 3) := by decide +kernel
theorem dX7_store_17 : decode cX7_store 17 = .ok (.iload_n 1, 1) := by decide +kernel
theorem dX7_store_18 : decode cX7_store 18 = .ok (.dup2, 1) := by decide +kernel
theorem dX7_store_19 : decode cX7_store 19 = .ok (.iaload, 1) := by decide +kernel
theorem dX7_store_20 : decode cX7_store 20 = .ok (.iload_n 2, 1) := by decide +kernel
theorem dX7_store_21 : decode cX7_store 21 = .ok (.iadd, 1) := by decide +kernel
theorem dX7_store_22 : decode cX7_store 22 = .ok (.iastore, 1) := by decide +kernel
theorem dX7_store_23 : decode cX7_store 23 = .ok (.return_, 1) := by decide +kernel
theorem dX7_take_0 : decode cX7_take 0 = .ok (.iload_n 3, 1) := by decide +kernel
theorem dX7_take_1 : decode cX7_take 1 = .ok (.istore 4, 2) := by decide +kernel
theorem dX7_take_3 : decode cX7_take 3 = .ok (.aload_n 0, 1) := by decide +kernel
theorem dX7_take_4 : decode cX7_take 4 = .ok (.getfield 9, 3) := by decide +kernel
theorem dX7_take_7 : decode cX7_take 7 = .ok (.arraylength, 1) := by decide +kernel
theorem dX7_take_8 : decode cX7_take 8 = .ok (.iconst 1, 1) := by decide +kernel
theorem dX7_take_9 : decode cX7_take 9 = .ok (.isub, 1) := by decide +kernel
theorem dX7_take_10 : decode cX7_take 10 = .ok (.istore 5, 2) := by decide +kernel
theorem dX7_take_12 : decode cX7_take 12 = .ok (.iload 5, 2) := by decide +kernel
theorem dX7_take_14 : decode cX7_take 14 = .ok (.ifCond .lt 66, 3) := by decide +kernel
theorem dX7_take_17 : decode cX7_take 17 = .ok (.iload 5, 2) := by decide +kernel
theorem dX7_take_19 : decode cX7_take 19 = .ok (.iload_n 1, 1) := by decide +kernel
theorem dX7_take_20 : decode cX7_take 20 = .ok (.if_icmp .lt 54, 3) := by decide +kernel
theorem dX7_take_23 : decode cX7_take 23 = .ok (.iload 5, 2) := by decide +kernel
theorem dX7_take_25 : decode cX7_take 25 = .ok (.iload_n 2, 1) := by decide +kernel
theorem dX7_take_26 : decode cX7_take 26 = .ok (.if_icmp .gt 48, 3) := by decide +kernel
theorem dX7_take_29 : decode cX7_take 29 = .ok (.iload 4, 2) := by decide +kernel
theorem dX7_take_31 : decode cX7_take 31 = .ok (.aload_n 0, 1) := by decide +kernel
theorem dX7_take_32 : decode cX7_take 32 = .ok (.getfield 9, 3) := by decide +kernel
theorem dX7_take_35 : decode cX7_take 35 = .ok (.iload 5, 2) := by decide +kernel
theorem dX7_take_37 : decode cX7_take 37 = .ok (.iaload, 1) := by decide +kernel
theorem dX7_take_38 : decode cX7_take 38 = .ok (.if_icmp .ge 8, 3) := by decide +kernel
theorem dX7_take_41 : decode cX7_take 41 = .ok (.iload 4, 2) := by decide +kernel
theorem dX7_take_43 : decode cX7_take 43 = .ok (.goto 10, 3) := by decide +kernel
theorem dX7_take_46 : decode cX7_take 46 = .ok (.aload_n 0, 1) := by decide +kernel
theorem dX7_take_47 : decode cX7_take 47 = .ok (.getfield 9, 3) := by decide +kernel
theorem dX7_take_50 : decode cX7_take 50 = .ok (.iload 5, 2) := by decide +kernel
theorem dX7_take_52 : decode cX7_take 52 = .ok (.iaload, 1) := by decide +kernel
theorem dX7_take_53 : decode cX7_take 53 = .ok (.istore 6, 2) := by decide +kernel
theorem dX7_take_55 : decode cX7_take 55 = .ok (.aload_n 0, 1) := by decide +kernel
theorem dX7_take_56 : decode cX7_take 56 = .ok (.getfield 9, 3) := by decide +kernel
theorem dX7_take_59 : decode cX7_take 59 = .ok (.iload 5, 2) := by decide +kernel
theorem dX7_take_61 : decode cX7_take 61 = .ok (.dup2, 1) := by decide +kernel
theorem dX7_take_62 : decode cX7_take 62 = .ok (.iaload, 1) := by decide +kernel
theorem dX7_take_63 : decode cX7_take 63 = .ok (.iload 6, 2) := by decide +kernel
theorem dX7_take_65 : decode cX7_take 65 = .ok (.isub, 1) := by decide +kernel
theorem dX7_take_66 : decode cX7_take 66 = .ok (.iastore, 1) := by decide +kernel
theorem dX7_take_67 : decode cX7_take 67 = .ok (.iload 4, 2) := by decide +kernel
theorem dX7_take_69 : decode cX7_take 69 = .ok (.iload 6, 2) := by decide +kernel
theorem dX7_take_71 : decode cX7_take 71 = .ok (.isub, 1) := by decide +kernel
theorem dX7_take_72 : decode cX7_take 72 = .ok (.istore 4, 2) := by decide +kernel
theorem dX7_take_74 : decode cX7_take 74 = .ok (.iinc 5 (-1), 3) := by decide +kernel
theorem dX7_take_77 : decode cX7_take 77 = .ok (.goto (-65), 3) := by decide +kernel
theorem dX7_take_80 : decode cX7_take 80 = .ok (.iload_n 3, 1) := by decide +kernel
theorem dX7_take_81 : decode cX7_take 81 = .ok (.iload 4, 2) := by decide +kernel
theorem dX7_take_83 : decode cX7_take 83 = .ok (.isub, 1) := by decide +kernel
theorem dX7_take_84 : decode cX7_take 84 = .ok (.ireturn, 1) := by decide +kernel
theorem dX7_growOlder_0 : decode cX7_growOlder 0 = .ok (.iconst 0, 1) := by decide +kernel
theorem dX7_growOlder_1 : decode cX7_growOlder 1 = .ok (.istore_n 1, 1) := by decide +kernel
theorem dX7_growOlder_2 : decode cX7_growOlder 2 = .ok (.iconst 0, 1) := by decide +kernel
theorem dX7_growOlder_3 : decode cX7_growOlder 3 = .ok (.istore_n 2, 1) := by decide +kernel
theorem dX7_growOlder_4 : decode cX7_growOlder 4 = .ok (.iload_n 2, 1) := by decide +kernel
theorem dX7_growOlder_5 : decode cX7_growOlder 5 = .ok (.aload_n 0, 1) := by decide +kernel
theorem dX7_growOlder_6 : decode cX7_growOlder 6 = .ok (.getfield 9, 3) := by decide +kernel
theorem dX7_growOlder_9 : decode cX7_growOlder 9 = .ok (.arraylength, 1) := by decide +kernel
theorem dX7_growOlder_10 : decode cX7_growOlder 10 = .ok (.if_icmp .ge 25, 3) := by decide +kernel
theorem dX7_growOlder_13 : decode cX7_growOlder 13 = .ok (.iload_n 1, 1) := by decide +kernel
theorem dX7_growOlder_14 : decode cX7_growOlder 14 = .ok (.istore_n 3, 1) := by decide +kernel
theorem dX7_growOlder_15 : decode cX7_growOlder 15 = .ok (.aload_n 0, 1) := by decide +kernel
theorem dX7_growOlder_16 : decode cX7_growOlder 16 = .ok (.getfield 9, 3) := by decide +kernel
theorem dX7_growOlder_19 : decode cX7_growOlder 19 = .ok (.iload_n 2, 1) := by decide +kernel
theorem dX7_growOlder_20 : decode cX7_growOlder 20 = .ok (.iaload, 1) := by decide +kernel
theorem dX7_growOlder_21 : decode cX7_growOlder 21 = .ok (.istore_n 1, 1) := by decide +kernel
theorem dX7_growOlder_22 : decode cX7_growOlder 22 = .ok (.aload_n 0, 1) := by decide +kernel
theorem dX7_growOlder_23 : decode cX7_growOlder 23 = .ok (.getfield 9, 3) := by decide +kernel
theorem dX7_growOlder_26 : decode cX7_growOlder 26 = .ok (.iload_n 2, 1) := by decide +kernel
theorem dX7_growOlder_27 : decode cX7_growOlder 27 = .ok (.iload_n 3, 1) := by decide +kernel
theorem dX7_growOlder_28 : decode cX7_growOlder 28 = .ok (.iastore, 1) := by decide +kernel
theorem dX7_growOlder_29 : decode cX7_growOlder 29 = .ok (.iinc 2 1, 3) := by decide +kernel
theorem dX7_growOlder_32 : decode cX7_growOlder 32 = .ok (.goto (-28), 3) := by decide +kernel
theorem dX7_growOlder_35 : decode cX7_growOlder 35 = .ok (.iload_n 1, 1) := by decide +kernel
theorem dX7_growOlder_36 : decode cX7_growOlder 36 = .ok (.ireturn, 1) := by decide +kernel
theorem dX8_init_0 : decode cX8_init 0 = .ok (.aload_n 0, 1) := by decide +kernel
theorem dX8_init_1 : decode cX8_init 1 = .ok (.invokespecial 1, 3) := by decide +kernel
theorem dX8_init_4 : decode cX8_init 4 = .ok (.aload_n 0, 1) := by decide +kernel
theorem dX8_init_5 : decode cX8_init 5 = .ok (.new 7, 3) := by decide +kernel
theorem dX8_init_8 : decode cX8_init 8 = .ok (.dup, 1) := by decide +kernel
theorem dX8_init_9 : decode cX8_init 9 = .ok (.invokespecial 9, 3) := by decide +kernel
theorem dX8_init_12 : decode cX8_init 12 = .ok (.putfield 10, 3) := by decide +kernel
theorem dX8_init_15 : decode cX8_init 15 = .ok (.aload_n 0, 1) := by decide +kernel
theorem dX8_init_16 : decode cX8_init 16 = .ok (.new 7, 3) := by decide +kernel
theorem dX8_init_19 : decode cX8_init 19 = .ok (.dup, 1) := by decide +kernel
theorem dX8_init_20 : decode cX8_init 20 = .ok (.invokespecial 9, 3) := by decide +kernel
theorem dX8_init_23 : decode cX8_init 23 = .ok (.putfield 16, 3) := by decide +kernel
theorem dX8_init_26 : decode cX8_init 26 = .ok (.aload_n 0, 1) := by decide +kernel
theorem dX8_init_27 : decode cX8_init 27 = .ok (.new 19, 3) := by decide +kernel
theorem dX8_init_30 : decode cX8_init 30 = .ok (.dup, 1) := by decide +kernel
theorem dX8_init_31 : decode cX8_init 31 = .ok (.invokespecial 21, 3) := by decide +kernel
theorem dX8_init_34 : decode cX8_init 34 = .ok (.putfield 22, 3) := by decide +kernel
theorem dX8_init_37 : decode cX8_init 37 = .ok (.aload_n 0, 1) := by decide +kernel
theorem dX8_init_38 : decode cX8_init 38 = .ok (.new 26, 3) := by decide +kernel
theorem dX8_init_41 : decode cX8_init 41 = .ok (.dup, 1) := by decide +kernel
theorem dX8_init_42 : decode cX8_init 42 = .ok (.invokespecial 28, 3) := by decide +kernel
theorem dX8_init_45 : decode cX8_init 45 = .ok (.putfield 29, 3) := by decide +kernel
theorem dX8_init_48 : decode cX8_init 48 = .ok (.return_, 1) := by decide +kernel
theorem dX8_mule_0 : decode cX8_mule 0 = .ok (.aload_n 0, 1) := by decide +kernel
theorem dX8_mule_1 : decode cX8_mule 1 = .ok (.getfield 16, 3) := by decide +kernel
theorem dX8_mule_4 : decode cX8_mule 4 = .ok (.aload_n 0, 1) := by decide +kernel
theorem dX8_mule_5 : decode cX8_mule 5 = .ok (.getfield 10, 3) := by decide +kernel
theorem dX8_mule_8 : decode cX8_mule 8 = .ok (.invokevirtual 33, 3) := by decide +kernel
theorem dX8_mule_11 : decode cX8_mule 11 = .ok (.aload_n 0, 1) := by decide +kernel
theorem dX8_mule_12 : decode cX8_mule 12 = .ok (.aload_n 0, 1) := by decide +kernel
theorem dX8_mule_13 : decode cX8_mule 13 = .ok (.getfield 16, 3) := by decide +kernel
theorem dX8_mule_16 : decode cX8_mule 16 = .ok (.iload_n 1, 1) := by decide +kernel
theorem dX8_mule_17 : decode cX8_mule 17 = .ok (.iload_n 2, 1) := by decide +kernel
theorem dX8_mule_18 : decode cX8_mule 18 = .ok (.invokevirtual 37, 3) := by decide +kernel
theorem dX8_mule_21 : decode cX8_mule 21 = .ok (.invokevirtual 41, 3) := by decide +kernel
theorem dX8_mule_24 : decode cX8_mule 24 = .ok (.ireturn, 1) := by decide +kernel
theorem dX8_send_0 : decode cX8_send 0 = .ok (.aload_n 0, 1) := by decide +kernel
theorem dX8_send_1 : decode cX8_send 1 = .ok (.getfield 16, 3) := by decide +kernel
theorem dX8_send_4 : decode cX8_send 4 = .ok (.aload_n 0, 1) := by decide +kernel
theorem dX8_send_5 : decode cX8_send 5 = .ok (.getfield 10, 3) := by decide +kernel
theorem dX8_send_8 : decode cX8_send 8 = .ok (.invokevirtual 33, 3) := by decide +kernel
theorem dX8_send_11 : decode cX8_send 11 = .ok (.aload_n 0, 1) := by decide +kernel
theorem dX8_send_12 : decode cX8_send 12 = .ok (.aload_n 0, 1) := by decide +kernel
theorem dX8_send_13 : decode cX8_send 13 = .ok (.getfield 16, 3) := by decide +kernel
theorem dX8_send_16 : decode cX8_send 16 = .ok (.iload_n 1, 1) := by decide +kernel
theorem dX8_send_17 : decode cX8_send 17 = .ok (.iload_n 2, 1) := by decide +kernel
theorem dX8_send_18 : decode cX8_send 18 = .ok (.invokevirtual 45, 3) := by decide +kernel
theorem dX8_send_21 : decode cX8_send 21 = .ok (.invokevirtual 41, 3) := by decide +kernel
theorem dX8_send_24 : decode cX8_send 24 = .ok (.ireturn, 1) := by decide +kernel
theorem dX8_rest_0 : decode cX8_rest 0 = .ok (.aload_n 0, 1) := by decide +kernel
theorem dX8_rest_1 : decode cX8_rest 1 = .ok (.getfield 16, 3) := by decide +kernel
theorem dX8_rest_4 : decode cX8_rest 4 = .ok (.aload_n 0, 1) := by decide +kernel
theorem dX8_rest_5 : decode cX8_rest 5 = .ok (.getfield 10, 3) := by decide +kernel
theorem dX8_rest_8 : decode cX8_rest 8 = .ok (.invokevirtual 33, 3) := by decide +kernel
theorem dX8_rest_11 : decode cX8_rest 11 = .ok (.aload_n 0, 1) := by decide +kernel
theorem dX8_rest_12 : decode cX8_rest 12 = .ok (.aload_n 0, 1) := by decide +kernel
theorem dX8_rest_13 : decode cX8_rest 13 = .ok (.getfield 16, 3) := by decide +kernel
theorem dX8_rest_16 : decode cX8_rest 16 = .ok (.iload_n 1, 1) := by decide +kernel
theorem dX8_rest_17 : decode cX8_rest 17 = .ok (.invokevirtual 48, 3) := by decide +kernel
theorem dX8_rest_20 : decode cX8_rest 20 = .ok (.invokevirtual 41, 3) := by decide +kernel
theorem dX8_rest_23 : decode cX8_rest 23 = .ok (.ireturn, 1) := by decide +kernel
theorem dX8_pay_0 : decode cX8_pay 0 = .ok (.aload_n 0, 1) := by decide +kernel
theorem dX8_pay_1 : decode cX8_pay 1 = .ok (.getfield 16, 3) := by decide +kernel
theorem dX8_pay_4 : decode cX8_pay 4 = .ok (.aload_n 0, 1) := by decide +kernel
theorem dX8_pay_5 : decode cX8_pay 5 = .ok (.getfield 10, 3) := by decide +kernel
theorem dX8_pay_8 : decode cX8_pay 8 = .ok (.invokevirtual 33, 3) := by decide +kernel
theorem dX8_pay_11 : decode cX8_pay 11 = .ok (.aload_n 0, 1) := by decide +kernel
theorem dX8_pay_12 : decode cX8_pay 12 = .ok (.aload_n 0, 1) := by decide +kernel
theorem dX8_pay_13 : decode cX8_pay 13 = .ok (.getfield 16, 3) := by decide +kernel
theorem dX8_pay_16 : decode cX8_pay 16 = .ok (.iload_n 1, 1) := by decide +kernel
theorem dX8_pay_17 : decode cX8_pay 17 = .ok (.invokevirtual 51, 3) := by decide +kernel
theorem dX8_pay_20 : decode cX8_pay 20 = .ok (.invokevirtual 41, 3) := by decide +kernel
theorem dX8_pay_23 : decode cX8_pay 23 = .ok (.ireturn, 1) := by decide +kernel
theorem dX8_group_0 : decode cX8_group 0 = .ok (.aload_n 0, 1) := by decide +kernel
theorem dX8_group_1 : decode cX8_group 1 = .ok (.getfield 16, 3) := by decide +kernel
theorem dX8_group_4 : decode cX8_group 4 = .ok (.aload_n 0, 1) := by decide +kernel
theorem dX8_group_5 : decode cX8_group 5 = .ok (.getfield 10, 3) := by decide +kernel
theorem dX8_group_8 : decode cX8_group 8 = .ok (.invokevirtual 33, 3) := by decide +kernel
theorem dX8_group_11 : decode cX8_group 11 = .ok (.aload_n 0, 1) := by decide +kernel
theorem dX8_group_12 : decode cX8_group 12 = .ok (.aload_n 0, 1) := by decide +kernel
theorem dX8_group_13 : decode cX8_group 13 = .ok (.getfield 16, 3) := by decide +kernel
theorem dX8_group_16 : decode cX8_group 16 = .ok (.iload_n 1, 1) := by decide +kernel
theorem dX8_group_17 : decode cX8_group 17 = .ok (.iload_n 2, 1) := by decide +kernel
theorem dX8_group_18 : decode cX8_group 18 = .ok (.iload_n 3, 1) := by decide +kernel
theorem dX8_group_19 : decode cX8_group 19 = .ok (.invokevirtual 54, 3) := by decide +kernel
theorem dX8_group_22 : decode cX8_group 22 = .ok (.invokevirtual 41, 3) := by decide +kernel
theorem dX8_group_25 : decode cX8_group 25 = .ok (.ireturn, 1) := by decide +kernel
theorem dX8_off_0 : decode cX8_off 0 = .ok (.aload_n 0, 1) := by decide +kernel
theorem dX8_off_1 : decode cX8_off 1 = .ok (.getfield 16, 3) := by decide +kernel
theorem dX8_off_4 : decode cX8_off 4 = .ok (.aload_n 0, 1) := by decide +kernel
theorem dX8_off_5 : decode cX8_off 5 = .ok (.getfield 10, 3) := by decide +kernel
theorem dX8_off_8 : decode cX8_off 8 = .ok (.invokevirtual 33, 3) := by decide +kernel
theorem dX8_off_11 : decode cX8_off 11 = .ok (.aload_n 0, 1) := by decide +kernel
theorem dX8_off_12 : decode cX8_off 12 = .ok (.aload_n 0, 1) := by decide +kernel
theorem dX8_off_13 : decode cX8_off 13 = .ok (.getfield 16, 3) := by decide +kernel
theorem dX8_off_16 : decode cX8_off 16 = .ok (.iload_n 1, 1) := by decide +kernel
theorem dX8_off_17 : decode cX8_off 17 = .ok (.invokevirtual 58, 3) := by decide +kernel
theorem dX8_off_20 : decode cX8_off 20 = .ok (.invokevirtual 41, 3) := by decide +kernel
theorem dX8_off_23 : decode cX8_off 23 = .ok (.ireturn, 1) := by decide +kernel
theorem dX8_end_0 : decode cX8_end 0 = .ok (.aload_n 0, 1) := by decide +kernel
theorem dX8_end_1 : decode cX8_end 1 = .ok (.getfield 16, 3) := by decide +kernel
theorem dX8_end_4 : decode cX8_end 4 = .ok (.aload_n 0, 1) := by decide +kernel
theorem dX8_end_5 : decode cX8_end 5 = .ok (.getfield 10, 3) := by decide +kernel
theorem dX8_end_8 : decode cX8_end 8 = .ok (.invokevirtual 33, 3) := by decide +kernel
theorem dX8_end_11 : decode cX8_end 11 = .ok (.aload_n 0, 1) := by decide +kernel
theorem dX8_end_12 : decode cX8_end 12 = .ok (.aload_n 0, 1) := by decide +kernel
theorem dX8_end_13 : decode cX8_end 13 = .ok (.getfield 16, 3) := by decide +kernel
theorem dX8_end_16 : decode cX8_end 16 = .ok (.iload_n 1, 1) := by decide +kernel
theorem dX8_end_17 : decode cX8_end 17 = .ok (.invokevirtual 61, 3) := by decide +kernel
theorem dX8_end_20 : decode cX8_end 20 = .ok (.invokevirtual 41, 3) := by decide +kernel
theorem dX8_end_23 : decode cX8_end 23 = .ok (.ireturn, 1) := by decide +kernel
theorem dX8_set_0 : decode cX8_set 0 = .ok (.aload_n 0, 1) := by decide +kernel
theorem dX8_set_1 : decode cX8_set 1 = .ok (.getfield 16, 3) := by decide +kernel
theorem dX8_set_4 : decode cX8_set 4 = .ok (.aload_n 0, 1) := by decide +kernel
theorem dX8_set_5 : decode cX8_set 5 = .ok (.getfield 10, 3) := by decide +kernel
theorem dX8_set_8 : decode cX8_set 8 = .ok (.invokevirtual 33, 3) := by decide +kernel
theorem dX8_set_11 : decode cX8_set 11 = .ok (.aload_n 0, 1) := by decide +kernel
theorem dX8_set_12 : decode cX8_set 12 = .ok (.aload_n 0, 1) := by decide +kernel
theorem dX8_set_13 : decode cX8_set 13 = .ok (.getfield 16, 3) := by decide +kernel
theorem dX8_set_16 : decode cX8_set 16 = .ok (.getfield 64, 3) := by decide +kernel
theorem dX8_set_19 : decode cX8_set 19 = .ok (.iload_n 1, 1) := by decide +kernel
theorem dX8_set_20 : decode cX8_set 20 = .ok (.iload_n 2, 1) := by decide +kernel
theorem dX8_set_21 : decode cX8_set 21 = .ok (.invokevirtual 68, 3) := by decide +kernel
theorem dX8_set_24 : decode cX8_set 24 = .ok (.invokevirtual 41, 3) := by decide +kernel
theorem dX8_set_27 : decode cX8_set 27 = .ok (.ireturn, 1) := by decide +kernel
theorem dX8_muleOf_0 : decode cX8_muleOf 0 = .ok (.aload_n 0, 1) := by decide +kernel
theorem dX8_muleOf_1 : decode cX8_muleOf 1 = .ok (.getfield 10, 3) := by decide +kernel
theorem dX8_muleOf_4 : decode cX8_muleOf 4 = .ok (.iload_n 1, 1) := by decide +kernel
theorem dX8_muleOf_5 : decode cX8_muleOf 5 = .ok (.invokevirtual 73, 3) := by decide +kernel
theorem dX8_muleOf_8 : decode cX8_muleOf 8 = .ok (.astore_n 3, 1) := by decide +kernel
theorem dX8_muleOf_9 : decode cX8_muleOf 9 = .ok (.aload_n 3, 1) := by decide +kernel
theorem dX8_muleOf_10 : decode cX8_muleOf 10 = .ok (.ifnonnull 8, 3) := by decide +kernel
theorem dX8_muleOf_13 : decode cX8_muleOf 13 = .ok (.ldc 77, 2) := by decide +kernel
theorem dX8_muleOf_15 : decode cX8_muleOf 15 = .ok (.goto 8, 3) := by decide +kernel
theorem dX8_muleOf_18 : decode cX8_muleOf 18 = .ok (.aload_n 3, 1) := by decide +kernel
theorem dX8_muleOf_19 : decode cX8_muleOf 19 = .ok (.iload_n 2, 1) := by decide +kernel
theorem dX8_muleOf_20 : decode cX8_muleOf 20 = .ok (.invokevirtual 78, 3) := by decide +kernel
theorem dX8_muleOf_23 : decode cX8_muleOf 23 = .ok (.ireturn, 1) := by decide +kernel
theorem dX8_groupOf_0 : decode cX8_groupOf 0 = .ok (.aload_n 0, 1) := by decide +kernel
theorem dX8_groupOf_1 : decode cX8_groupOf 1 = .ok (.getfield 10, 3) := by decide +kernel
theorem dX8_groupOf_4 : decode cX8_groupOf 4 = .ok (.aload_n 0, 1) := by decide +kernel
theorem dX8_groupOf_5 : decode cX8_groupOf 5 = .ok (.getfield 10, 3) := by decide +kernel
theorem dX8_groupOf_8 : decode cX8_groupOf 8 = .ok (.iload_n 1, 1) := by decide +kernel
theorem dX8_groupOf_9 : decode cX8_groupOf 9 = .ok (.invokevirtual 83, 3) := by decide +kernel
theorem dX8_groupOf_12 : decode cX8_groupOf 12 = .ok (.invokevirtual 86, 3) := by decide +kernel
theorem dX8_groupOf_15 : decode cX8_groupOf 15 = .ok (.astore_n 3, 1) := by decide +kernel
theorem dX8_groupOf_16 : decode cX8_groupOf 16 = .ok (.aload_n 3, 1) := by decide +kernel
theorem dX8_groupOf_17 : decode cX8_groupOf 17 = .ok (.ifnonnull 8, 3) := by decide +kernel
theorem dX8_groupOf_20 : decode cX8_groupOf 20 = .ok (.ldc 77, 2) := by decide +kernel
theorem dX8_groupOf_22 : decode cX8_groupOf 22 = .ok (.goto 15, 3) := by decide +kernel
theorem dX8_groupOf_25 : decode cX8_groupOf 25 = .ok (.aload_n 3, 1) := by decide +kernel
theorem dX8_groupOf_26 : decode cX8_groupOf 26 = .ok (.iload_n 2, 1) := by decide +kernel
theorem dX8_groupOf_27 : decode cX8_groupOf 27 = .ok (.aload_n 0, 1) := by decide +kernel
theorem dX8_groupOf_28 : decode cX8_groupOf 28 = .ok (.getfield 10, 3) := by decide +kernel
theorem dX8_groupOf_31 : decode cX8_groupOf 31 = .ok (.getfield 90, 3) := by decide +kernel
theorem dX8_groupOf_34 : decode cX8_groupOf 34 = .ok (.invokevirtual 94, 3) := by decide +kernel
theorem dX8_groupOf_37 : decode cX8_groupOf 37 = .ok (.ireturn, 1) := by decide +kernel
theorem dX8_number_0 : decode cX8_number 0 = .ok (.iload_n 1, 1) := by decide +kernel
theorem dX8_number_1 : decode cX8_number 1 = .ok (.ifCond .ge 6, 3) := by decide +kernel
theorem dX8_number_4 : decode cX8_number 4 = .ok (.ldc 77, 2) := by decide +kernel
theorem dX8_number_6 : decode cX8_number 6 = .ok (.ireturn, 1) := by decide +kernel
theorem dX8_number_7 : decode cX8_number 7 = .ok (.aload_n 0, 1) := by decide +kernel
theorem dX8_number_8 : decode cX8_number 8 = .ok (.getfield 10, 3) := by decide +kernel
theorem dX8_number_11 : decode cX8_number 11 = .ok (.iload_n 1, 1) := by decide +kernel
theorem dX8_number_12 : decode cX8_number 12 = .ok (.invokevirtual 86, 3) := by decide +kernel
theorem dX8_number_15 : decode cX8_number 15 = .ok (.astore_n 2, 1) := by decide +kernel
theorem dX8_number_16 : decode cX8_number 16 = .ok (.aload_n 2, 1) := by decide +kernel
theorem dX8_number_17 : decode cX8_number 17 = .ok (.ifnonnull 8, 3) := by decide +kernel
theorem dX8_number_20 : decode cX8_number 20 = .ok (.ldc 98, 2) := by decide +kernel
theorem dX8_number_22 : decode cX8_number 22 = .ok (.goto 7, 3) := by decide +kernel
theorem dX8_number_25 : decode cX8_number 25 = .ok (.aload_n 2, 1) := by decide +kernel
theorem dX8_number_26 : decode cX8_number 26 = .ok (.getfield 99, 3) := by decide +kernel
theorem dX8_number_29 : decode cX8_number 29 = .ok (.ireturn, 1) := by decide +kernel
theorem dX8_loaves_0 : decode cX8_loaves 0 = .ok (.iload_n 1, 1) := by decide +kernel
theorem dX8_loaves_1 : decode cX8_loaves 1 = .ok (.iconst 0, 1) := by decide +kernel
theorem dX8_loaves_2 : decode cX8_loaves 2 = .ok (.bipush 20, 2) := by decide +kernel
theorem dX8_loaves_4 : decode cX8_loaves 4 = .ok (.invokestatic 102, 3) := by decide +kernel
theorem dX8_loaves_7 : decode cX8_loaves 7 = .ok (.ifCond .eq 18, 3) := by decide +kernel
theorem dX8_loaves_10 : decode cX8_loaves 10 = .ok (.aload_n 0, 1) := by decide +kernel
theorem dX8_loaves_11 : decode cX8_loaves 11 = .ok (.getfield 10, 3) := by decide +kernel
theorem dX8_loaves_14 : decode cX8_loaves 14 = .ok (.getfield 106, 3) := by decide +kernel
theorem dX8_loaves_17 : decode cX8_loaves 17 = .ok (.iload_n 1, 1) := by decide +kernel
theorem dX8_loaves_18 : decode cX8_loaves 18 = .ok (.iload_n 1, 1) := by decide +kernel
theorem dX8_loaves_19 : decode cX8_loaves 19 = .ok (.invokevirtual 110, 3) := by decide +kernel
theorem dX8_loaves_22 : decode cX8_loaves 22 = .ok (.goto 5, 3) := by decide +kernel
theorem dX8_loaves_25 : decode cX8_loaves 25 = .ok (.ldc 77, 2) := by decide +kernel
theorem dX8_loaves_27 : decode cX8_loaves 27 = .ok (.ireturn, 1) := by decide +kernel
theorem dX8_why_0 : decode cX8_why 0 = .ok (.aload_n 0, 1) := by decide +kernel
theorem dX8_why_1 : decode cX8_why 1 = .ok (.getfield 10, 3) := by decide +kernel
theorem dX8_why_4 : decode cX8_why 4 = .ok (.iload_n 1, 1) := by decide +kernel
theorem dX8_why_5 : decode cX8_why 5 = .ok (.iload_n 2, 1) := by decide +kernel
theorem dX8_why_6 : decode cX8_why 6 = .ok (.invokevirtual 115, 3) := by decide +kernel
theorem dX8_why_9 : decode cX8_why 9 = .ok (.ireturn, 1) := by decide +kernel
theorem dX8_wanted_0 : decode cX8_wanted 0 = .ok (.iload_n 1, 1) := by decide +kernel
theorem dX8_wanted_1 : decode cX8_wanted 1 = .ok (.iconst 0, 1) := by decide +kernel
theorem dX8_wanted_2 : decode cX8_wanted 2 = .ok (.bipush 60, 2) := by decide +kernel
theorem dX8_wanted_4 : decode cX8_wanted 4 = .ok (.invokestatic 102, 3) := by decide +kernel
theorem dX8_wanted_7 : decode cX8_wanted 7 = .ok (.ifCond .eq 22, 3) := by decide +kernel
theorem dX8_wanted_10 : decode cX8_wanted 10 = .ok (.aload_n 0, 1) := by decide +kernel
theorem dX8_wanted_11 : decode cX8_wanted 11 = .ok (.getfield 10, 3) := by decide +kernel
theorem dX8_wanted_14 : decode cX8_wanted 14 = .ok (.aload_n 0, 1) := by decide +kernel
theorem dX8_wanted_15 : decode cX8_wanted 15 = .ok (.getfield 10, 3) := by decide +kernel
theorem dX8_wanted_18 : decode cX8_wanted 18 = .ok (.getfield 90, 3) := by decide +kernel
theorem dX8_wanted_21 : decode cX8_wanted 21 = .ok (.iload_n 1, 1) := by decide +kernel
theorem dX8_wanted_22 : decode cX8_wanted 22 = .ok (.iadd, 1) := by decide +kernel
theorem dX8_wanted_23 : decode cX8_wanted 23 = .ok (.invokevirtual 118, 3) := by decide +kernel
theorem dX8_wanted_26 : decode cX8_wanted 26 = .ok (.goto 5, 3) := by decide +kernel
theorem dX8_wanted_29 : decode cX8_wanted 29 = .ok (.ldc 77, 2) := by decide +kernel
theorem dX8_wanted_31 : decode cX8_wanted 31 = .ok (.ireturn, 1) := by decide +kernel
theorem dX8_hungry_0 : decode cX8_hungry 0 = .ok (.aload_n 0, 1) := by decide +kernel
theorem dX8_hungry_1 : decode cX8_hungry 1 = .ok (.getfield 16, 3) := by decide +kernel
theorem dX8_hungry_4 : decode cX8_hungry 4 = .ok (.aload_n 0, 1) := by decide +kernel
theorem dX8_hungry_5 : decode cX8_hungry 5 = .ok (.getfield 10, 3) := by decide +kernel
theorem dX8_hungry_8 : decode cX8_hungry 8 = .ok (.invokevirtual 33, 3) := by decide +kernel
theorem dX8_hungry_11 : decode cX8_hungry 11 = .ok (.iconst 1, 1) := by decide +kernel
theorem dX8_hungry_12 : decode cX8_hungry 12 = .ok (.istore_n 1, 1) := by decide +kernel
theorem dX8_hungry_13 : decode cX8_hungry 13 = .ok (.iload_n 1, 1) := by decide +kernel
theorem dX8_hungry_14 : decode cX8_hungry 14 = .ok (.bipush 60, 2) := by decide +kernel
theorem dX8_hungry_16 : decode cX8_hungry 16 = .ok (.if_icmp .gt 41, 3) := by decide +kernel
theorem dX8_hungry_19 : decode cX8_hungry 19 = .ok (.aload_n 0, 1) := by decide +kernel
theorem dX8_hungry_20 : decode cX8_hungry 20 = .ok (.getfield 16, 3) := by decide +kernel
theorem dX8_hungry_23 : decode cX8_hungry 23 = .ok (.invokevirtual 121, 3) := by decide +kernel
theorem dX8_hungry_26 : decode cX8_hungry 26 = .ok (.aload_n 0, 1) := by decide +kernel
theorem dX8_hungry_27 : decode cX8_hungry 27 = .ok (.getfield 16, 3) := by decide +kernel
theorem dX8_hungry_30 : decode cX8_hungry 30 = .ok (.getfield 124, 3) := by decide +kernel
theorem dX8_hungry_33 : decode cX8_hungry 33 = .ok (.getfield 128, 3) := by decide +kernel
theorem dX8_hungry_36 : decode cX8_hungry 36 = .ok (.aload_n 0, 1) := by decide +kernel
theorem dX8_hungry_37 : decode cX8_hungry 37 = .ok (.getfield 10, 3) := by decide +kernel
theorem dX8_hungry_40 : decode cX8_hungry 40 = .ok (.getfield 124, 3) := by decide +kernel
theorem dX8_hungry_43 : decode cX8_hungry 43 = .ok (.getfield 128, 3) := by decide +kernel
theorem dX8_hungry_46 : decode cX8_hungry 46 = .ok (.if_icmp .le 5, 3) := by decide +kernel
theorem dX8_hungry_49 : decode cX8_hungry 49 = .ok (.iload_n 1, 1) := by decide +kernel
theorem dX8_hungry_50 : decode cX8_hungry 50 = .ok (.ireturn, 1) := by decide +kernel
theorem dX8_hungry_51 : decode cX8_hungry 51 = .ok (.iinc 1 1, 3) := by decide +kernel
theorem dX8_hungry_54 : decode cX8_hungry 54 = .ok (.goto (-41), 3) := by decide +kernel
theorem dX8_hungry_57 : decode cX8_hungry 57 = .ok (.ldc 98, 2) := by decide +kernel
theorem dX8_hungry_59 : decode cX8_hungry 59 = .ok (.ireturn, 1) := by decide +kernel
theorem dX8_next_0 : decode cX8_next 0 = .ok (.iload_n 1, 1) := by decide +kernel
theorem dX8_next_1 : decode cX8_next 1 = .ok (.iconst 0, 1) := by decide +kernel
theorem dX8_next_2 : decode cX8_next 2 = .ok (.iconst 1, 1) := by decide +kernel
theorem dX8_next_3 : decode cX8_next 3 = .ok (.invokestatic 102, 3) := by decide +kernel
theorem dX8_next_6 : decode cX8_next 6 = .ok (.ifCond .ne 6, 3) := by decide +kernel
theorem dX8_next_9 : decode cX8_next 9 = .ok (.ldc 77, 2) := by decide +kernel
theorem dX8_next_11 : decode cX8_next 11 = .ok (.ireturn, 1) := by decide +kernel
theorem dX8_next_12 : decode cX8_next 12 = .ok (.aload_n 0, 1) := by decide +kernel
theorem dX8_next_13 : decode cX8_next 13 = .ok (.getfield 10, 3) := by decide +kernel
theorem dX8_next_16 : decode cX8_next 16 = .ok (.invokevirtual 133, 3) := by decide +kernel
theorem dX8_next_19 : decode cX8_next 19 = .ok (.istore_n 2, 1) := by decide +kernel
theorem dX8_next_20 : decode cX8_next 20 = .ok (.aload_n 0, 1) := by decide +kernel
theorem dX8_next_21 : decode cX8_next 21 = .ok (.getfield 10, 3) := by decide +kernel
theorem dX8_next_24 : decode cX8_next 24 = .ok (.iload_n 2, 1) := by decide +kernel
theorem dX8_next_25 : decode cX8_next 25 = .ok (.invokevirtual 73, 3) := by decide +kernel
theorem dX8_next_28 : decode cX8_next 28 = .ok (.astore_n 3, 1) := by decide +kernel
theorem dX8_next_29 : decode cX8_next 29 = .ok (.aload_n 3, 1) := by decide +kernel
theorem dX8_next_30 : decode cX8_next 30 = .ok (.ifnonnull 6, 3) := by decide +kernel
theorem dX8_next_33 : decode cX8_next 33 = .ok (.ldc 98, 2) := by decide +kernel
theorem dX8_next_35 : decode cX8_next 35 = .ok (.ireturn, 1) := by decide +kernel
theorem dX8_next_36 : decode cX8_next 36 = .ok (.iload_n 1, 1) := by decide +kernel
theorem dX8_next_37 : decode cX8_next 37 = .ok (.ifCond .ne 7, 3) := by decide +kernel
theorem dX8_next_40 : decode cX8_next 40 = .ok (.iload_n 2, 1) := by decide +kernel
theorem dX8_next_41 : decode cX8_next 41 = .ok (.goto 17, 3) := by decide +kernel
theorem dX8_next_44 : decode cX8_next 44 = .ok (.aload_n 3, 1) := by decide +kernel
theorem dX8_next_45 : decode cX8_next 45 = .ok (.getfield 137, 3) := by decide +kernel
theorem dX8_next_48 : decode cX8_next 48 = .ok (.aload_n 0, 1) := by decide +kernel
theorem dX8_next_49 : decode cX8_next 49 = .ok (.getfield 10, 3) := by decide +kernel
theorem dX8_next_52 : decode cX8_next 52 = .ok (.invokevirtual 140, 3) := by decide +kernel
theorem dX8_next_55 : decode cX8_next 55 = .ok (.invokestatic 143, 3) := by decide +kernel
theorem dX8_next_58 : decode cX8_next 58 = .ok (.ireturn, 1) := by decide +kernel
theorem dX8_would_0 : decode cX8_would 0 = .ok (.iload_n 1, 1) := by decide +kernel
theorem dX8_would_1 : decode cX8_would 1 = .ok (.iconst 1, 1) := by decide +kernel
theorem dX8_would_2 : decode cX8_would 2 = .ok (.bipush 60, 2) := by decide +kernel
theorem dX8_would_4 : decode cX8_would 4 = .ok (.invokestatic 102, 3) := by decide +kernel
theorem dX8_would_7 : decode cX8_would 7 = .ok (.ifCond .eq 12, 3) := by decide +kernel
theorem dX8_would_10 : decode cX8_would 10 = .ok (.iload_n 2, 1) := by decide +kernel
theorem dX8_would_11 : decode cX8_would 11 = .ok (.iconst 0, 1) := by decide +kernel
theorem dX8_would_12 : decode cX8_would 12 = .ok (.iconst 3, 1) := by decide +kernel
theorem dX8_would_13 : decode cX8_would 13 = .ok (.invokestatic 102, 3) := by decide +kernel
theorem dX8_would_16 : decode cX8_would 16 = .ok (.ifCond .ne 6, 3) := by decide +kernel
theorem dX8_would_19 : decode cX8_would 19 = .ok (.ldc 77, 2) := by decide +kernel
theorem dX8_would_21 : decode cX8_would 21 = .ok (.ireturn, 1) := by decide +kernel
theorem dX8_would_22 : decode cX8_would 22 = .ok (.aload_n 0, 1) := by decide +kernel
theorem dX8_would_23 : decode cX8_would 23 = .ok (.getfield 16, 3) := by decide +kernel
theorem dX8_would_26 : decode cX8_would 26 = .ok (.aload_n 0, 1) := by decide +kernel
theorem dX8_would_27 : decode cX8_would 27 = .ok (.getfield 10, 3) := by decide +kernel
theorem dX8_would_30 : decode cX8_would 30 = .ok (.invokevirtual 33, 3) := by decide +kernel
theorem dX8_would_33 : decode cX8_would 33 = .ok (.iconst 0, 1) := by decide +kernel
theorem dX8_would_34 : decode cX8_would 34 = .ok (.istore_n 3, 1) := by decide +kernel
theorem dX8_would_35 : decode cX8_would 35 = .ok (.iload_n 3, 1) := by decide +kernel
theorem dX8_would_36 : decode cX8_would 36 = .ok (.iload_n 1, 1) := by decide +kernel
theorem dX8_would_37 : decode cX8_would 37 = .ok (.if_icmp .ge 16, 3) := by decide +kernel
theorem dX8_would_40 : decode cX8_would 40 = .ok (.aload_n 0, 1) := by decide +kernel
theorem dX8_would_41 : decode cX8_would 41 = .ok (.getfield 16, 3) := by decide +kernel
theorem dX8_would_44 : decode cX8_would 44 = .ok (.invokevirtual 121, 3) := by decide +kernel
theorem dX8_would_47 : decode cX8_would 47 = .ok (.iinc 3 1, 3) := by decide +kernel
theorem dX8_would_50 : decode cX8_would 50 = .ok (.goto (-15), 3) := by decide +kernel
theorem dX8_would_53 : decode cX8_would 53 = .ok (.iload_n 2, 1) := by decide +kernel
theorem dX8_would_54 : decode cX8_would 54 = .ok (.tableswitch 73 0 2 #[26, 48, 59], 26) := by decide +kernel
theorem dX8_would_80 : decode cX8_would 80 = .ok (.aload_n 0, 1) := by decide +kernel
theorem dX8_would_81 : decode cX8_would 81 = .ok (.getfield 16, 3) := by decide +kernel
theorem dX8_would_84 : decode cX8_would 84 = .ok (.getfield 124, 3) := by decide +kernel
theorem dX8_would_87 : decode cX8_would 87 = .ok (.getfield 148, 3) := by decide +kernel
theorem dX8_would_90 : decode cX8_would 90 = .ok (.aload_n 0, 1) := by decide +kernel
theorem dX8_would_91 : decode cX8_would 91 = .ok (.getfield 10, 3) := by decide +kernel
theorem dX8_would_94 : decode cX8_would 94 = .ok (.getfield 124, 3) := by decide +kernel
theorem dX8_would_97 : decode cX8_would 97 = .ok (.getfield 148, 3) := by decide +kernel
theorem dX8_would_100 : decode cX8_would 100 = .ok (.isub, 1) := by decide +kernel
theorem dX8_would_101 : decode cX8_would 101 = .ok (.ireturn, 1) := by decide +kernel
theorem dX8_would_102 : decode cX8_would 102 = .ok (.aload_n 0, 1) := by decide +kernel
theorem dX8_would_103 : decode cX8_would 103 = .ok (.getfield 16, 3) := by decide +kernel
theorem dX8_would_106 : decode cX8_would 106 = .ok (.getfield 124, 3) := by decide +kernel
theorem dX8_would_109 : decode cX8_would 109 = .ok (.getfield 151, 3) := by decide +kernel
theorem dX8_would_112 : decode cX8_would 112 = .ok (.ireturn, 1) := by decide +kernel
theorem dX8_would_113 : decode cX8_would 113 = .ok (.aload_n 0, 1) := by decide +kernel
theorem dX8_would_114 : decode cX8_would 114 = .ok (.getfield 16, 3) := by decide +kernel
theorem dX8_would_117 : decode cX8_would 117 = .ok (.getfield 106, 3) := by decide +kernel
theorem dX8_would_120 : decode cX8_would 120 = .ok (.iconst 0, 1) := by decide +kernel
theorem dX8_would_121 : decode cX8_would 121 = .ok (.bipush 20, 2) := by decide +kernel
theorem dX8_would_123 : decode cX8_would 123 = .ok (.invokevirtual 110, 3) := by decide +kernel
theorem dX8_would_126 : decode cX8_would 126 = .ok (.ireturn, 1) := by decide +kernel
theorem dX8_would_127 : decode cX8_would 127 = .ok (.aload_n 0, 1) := by decide +kernel
theorem dX8_would_128 : decode cX8_would 128 = .ok (.getfield 16, 3) := by decide +kernel
theorem dX8_would_131 : decode cX8_would 131 = .ok (.getfield 124, 3) := by decide +kernel
theorem dX8_would_134 : decode cX8_would 134 = .ok (.invokevirtual 154, 3) := by decide +kernel
theorem dX8_would_137 : decode cX8_would 137 = .ok (.aload_n 0, 1) := by decide +kernel
theorem dX8_would_138 : decode cX8_would 138 = .ok (.getfield 10, 3) := by decide +kernel
theorem dX8_would_141 : decode cX8_would 141 = .ok (.getfield 124, 3) := by decide +kernel
theorem dX8_would_144 : decode cX8_would 144 = .ok (.invokevirtual 154, 3) := by decide +kernel
theorem dX8_would_147 : decode cX8_would 147 = .ok (.isub, 1) := by decide +kernel
theorem dX8_would_148 : decode cX8_would 148 = .ok (.ireturn, 1) := by decide +kernel
theorem dX8_mean_0 : decode cX8_mean 0 = .ok (.aload_n 0, 1) := by decide +kernel
theorem dX8_mean_1 : decode cX8_mean 1 = .ok (.getfield 10, 3) := by decide +kernel
theorem dX8_mean_4 : decode cX8_mean 4 = .ok (.getfield 106, 3) := by decide +kernel
theorem dX8_mean_7 : decode cX8_mean 7 = .ok (.iconst 0, 1) := by decide +kernel
theorem dX8_mean_8 : decode cX8_mean 8 = .ok (.bipush 20, 2) := by decide +kernel
theorem dX8_mean_10 : decode cX8_mean 10 = .ok (.invokevirtual 110, 3) := by decide +kernel
theorem dX8_mean_13 : decode cX8_mean 13 = .ok (.istore_n 1, 1) := by decide +kernel
theorem dX8_mean_14 : decode cX8_mean 14 = .ok (.iload_n 1, 1) := by decide +kernel
theorem dX8_mean_15 : decode cX8_mean 15 = .ok (.ifCond .gt 6, 3) := by decide +kernel
theorem dX8_mean_18 : decode cX8_mean 18 = .ok (.ldc 98, 2) := by decide +kernel
theorem dX8_mean_20 : decode cX8_mean 20 = .ok (.ireturn, 1) := by decide +kernel
theorem dX8_mean_21 : decode cX8_mean 21 = .ok (.aload_n 0, 1) := by decide +kernel
theorem dX8_mean_22 : decode cX8_mean 22 = .ok (.getfield 10, 3) := by decide +kernel
theorem dX8_mean_25 : decode cX8_mean 25 = .ok (.getfield 106, 3) := by decide +kernel
theorem dX8_mean_28 : decode cX8_mean 28 = .ok (.invokevirtual 157, 3) := by decide +kernel
theorem dX8_mean_31 : decode cX8_mean 31 = .ok (.i2f, 1) := by decide +kernel
theorem dX8_mean_32 : decode cX8_mean 32 = .ok (.iload_n 1, 1) := by decide +kernel
theorem dX8_mean_33 : decode cX8_mean 33 = .ok (.i2f, 1) := by decide +kernel
theorem dX8_mean_34 : decode cX8_mean 34 = .ok (.fdiv, 1) := by decide +kernel
theorem dX8_mean_35 : decode cX8_mean 35 = .ok (.invokestatic 160, 3) := by decide +kernel
theorem dX8_mean_38 : decode cX8_mean 38 = .ok (.ireturn, 1) := by decide +kernel
theorem dX8_count_0 : decode cX8_count 0 = .ok (.iload_n 1, 1) := by decide +kernel
theorem dX8_count_1 : decode cX8_count 1 = .ok (.lookupswitch 43 #[(18, 27), (19, 35)], 27) := by decide +kernel
theorem dX8_count_28 : decode cX8_count 28 = .ok (.aload_n 0, 1) := by decide +kernel
theorem dX8_count_29 : decode cX8_count 29 = .ok (.getfield 22, 3) := by decide +kernel
theorem dX8_count_32 : decode cX8_count 32 = .ok (.getfield 164, 3) := by decide +kernel
theorem dX8_count_35 : decode cX8_count 35 = .ok (.ireturn, 1) := by decide +kernel
theorem dX8_count_36 : decode cX8_count 36 = .ok (.aload_n 0, 1) := by decide +kernel
theorem dX8_count_37 : decode cX8_count 37 = .ok (.getfield 29, 3) := by decide +kernel
theorem dX8_count_40 : decode cX8_count 40 = .ok (.getfield 167, 3) := by decide +kernel
theorem dX8_count_43 : decode cX8_count 43 = .ok (.ireturn, 1) := by decide +kernel
theorem dX8_count_44 : decode cX8_count 44 = .ok (.aload_n 0, 1) := by decide +kernel
theorem dX8_count_45 : decode cX8_count 45 = .ok (.getfield 10, 3) := by decide +kernel
theorem dX8_count_48 : decode cX8_count 48 = .ok (.iload_n 1, 1) := by decide +kernel
theorem dX8_count_49 : decode cX8_count 49 = .ok (.invokevirtual 170, 3) := by decide +kernel
theorem dX8_count_52 : decode cX8_count 52 = .ok (.ireturn, 1) := by decide +kernel
theorem dX8_undo_0 : decode cX8_undo 0 = .ok (.aload_n 0, 1) := by decide +kernel
theorem dX8_undo_1 : decode cX8_undo 1 = .ok (.getfield 22, 3) := by decide +kernel
theorem dX8_undo_4 : decode cX8_undo 4 = .ok (.invokevirtual 171, 3) := by decide +kernel
theorem dX8_undo_7 : decode cX8_undo 7 = .ok (.astore_n 1, 1) := by decide +kernel
theorem dX8_undo_8 : decode cX8_undo 8 = .ok (.aload_n 1, 1) := by decide +kernel
theorem dX8_undo_9 : decode cX8_undo 9 = .ok (.ifnonnull 6, 3) := by decide +kernel
theorem dX8_undo_12 : decode cX8_undo 12 = .ok (.ldc 175, 2) := by decide +kernel
theorem dX8_undo_14 : decode cX8_undo 14 = .ok (.ireturn, 1) := by decide +kernel
theorem dX8_undo_15 : decode cX8_undo 15 = .ok (.aload_n 0, 1) := by decide +kernel
theorem dX8_undo_16 : decode cX8_undo 16 = .ok (.getfield 10, 3) := by decide +kernel
theorem dX8_undo_19 : decode cX8_undo 19 = .ok (.aload_n 1, 1) := by decide +kernel
theorem dX8_undo_20 : decode cX8_undo 20 = .ok (.invokevirtual 33, 3) := by decide +kernel
theorem dX8_undo_23 : decode cX8_undo 23 = .ok (.aload_n 0, 1) := by decide +kernel
theorem dX8_undo_24 : decode cX8_undo 24 = .ok (.getfield 22, 3) := by decide +kernel
theorem dX8_undo_27 : decode cX8_undo 27 = .ok (.getfield 164, 3) := by decide +kernel
theorem dX8_undo_30 : decode cX8_undo 30 = .ok (.ireturn, 1) := by decide +kernel
theorem dX8_type_0 : decode cX8_type 0 = .ok (.iload_n 1, 1) := by decide +kernel
theorem dX8_type_1 : decode cX8_type 1 = .ok (.bipush 32, 2) := by decide +kernel
theorem dX8_type_3 : decode cX8_type 3 = .ok (.bipush 126, 2) := by decide +kernel
theorem dX8_type_5 : decode cX8_type 5 = .ok (.invokestatic 102, 3) := by decide +kernel
theorem dX8_type_8 : decode cX8_type 8 = .ok (.ifCond .eq 15, 3) := by decide +kernel
theorem dX8_type_11 : decode cX8_type 11 = .ok (.aload_n 0, 1) := by decide +kernel
theorem dX8_type_12 : decode cX8_type 12 = .ok (.getfield 29, 3) := by decide +kernel
theorem dX8_type_15 : decode cX8_type 15 = .ok (.iload_n 1, 1) := by decide +kernel
theorem dX8_type_16 : decode cX8_type 16 = .ok (.i2c, 1) := by decide +kernel
theorem dX8_type_17 : decode cX8_type 17 = .ok (.invokevirtual 176, 3) := by decide +kernel
theorem dX8_type_20 : decode cX8_type 20 = .ok (.goto 5, 3) := by decide +kernel
theorem dX8_type_23 : decode cX8_type 23 = .ok (.ldc 77, 2) := by decide +kernel
theorem dX8_type_25 : decode cX8_type 25 = .ok (.ireturn, 1) := by decide +kernel
theorem dX8_clearText_0 : decode cX8_clearText 0 = .ok (.aload_n 0, 1) := by decide +kernel
theorem dX8_clearText_1 : decode cX8_clearText 1 = .ok (.getfield 29, 3) := by decide +kernel
theorem dX8_clearText_4 : decode cX8_clearText 4 = .ok (.invokevirtual 180, 3) := by decide +kernel
theorem dX8_clearText_7 : decode cX8_clearText 7 = .ok (.ireturn, 1) := by decide +kernel
theorem dX8_fault_0 : decode cX8_fault 0 = .ok (.iload_n 1, 1) := by decide +kernel
theorem dX8_fault_1 : decode cX8_fault 1 = .ok (.iconst 0, 1) := by decide +kernel
theorem dX8_fault_2 : decode cX8_fault 2 = .ok (.iconst 2, 1) := by decide +kernel
theorem dX8_fault_3 : decode cX8_fault 3 = .ok (.invokestatic 102, 3) := by decide +kernel
theorem dX8_fault_6 : decode cX8_fault 6 = .ok (.ifCond .ne 6, 3) := by decide +kernel
theorem dX8_fault_9 : decode cX8_fault 9 = .ok (.ldc 77, 2) := by decide +kernel
theorem dX8_fault_11 : decode cX8_fault 11 = .ok (.ireturn, 1) := by decide +kernel
theorem dX8_fault_12 : decode cX8_fault 12 = .ok (.aload_n 0, 1) := by decide +kernel
theorem dX8_fault_13 : decode cX8_fault 13 = .ok (.getfield 16, 3) := by decide +kernel
theorem dX8_fault_16 : decode cX8_fault 16 = .ok (.aload_n 0, 1) := by decide +kernel
theorem dX8_fault_17 : decode cX8_fault 17 = .ok (.getfield 10, 3) := by decide +kernel
theorem dX8_fault_20 : decode cX8_fault 20 = .ok (.invokevirtual 33, 3) := by decide +kernel
theorem dX8_fault_23 : decode cX8_fault 23 = .ok (.aload_n 0, 1) := by decide +kernel
theorem dX8_fault_24 : decode cX8_fault 24 = .ok (.getfield 29, 3) := by decide +kernel
theorem dX8_fault_27 : decode cX8_fault 27 = .ok (.aload_n 0, 1) := by decide +kernel
theorem dX8_fault_28 : decode cX8_fault 28 = .ok (.getfield 16, 3) := by decide +kernel
theorem dX8_fault_31 : decode cX8_fault 31 = .ok (.invokevirtual 183, 3) := by decide +kernel
theorem dX8_fault_34 : decode cX8_fault 34 = .ok (.pop, 1) := by decide +kernel
theorem dX8_fault_35 : decode cX8_fault 35 = .ok (.aload_n 0, 1) := by decide +kernel
theorem dX8_fault_36 : decode cX8_fault 36 = .ok (.getfield 29, 3) := by decide +kernel
theorem dX8_fault_39 : decode cX8_fault 39 = .ok (.getfield 187, 3) := by decide +kernel
theorem dX8_fault_42 : decode cX8_fault 42 = .ok (.ifCond .ne 6, 3) := by decide +kernel
theorem dX8_fault_45 : decode cX8_fault 45 = .ok (.ldc 98, 2) := by decide +kernel
theorem dX8_fault_47 : decode cX8_fault 47 = .ok (.ireturn, 1) := by decide +kernel
theorem dX8_fault_48 : decode cX8_fault 48 = .ok (.iload_n 1, 1) := by decide +kernel
theorem dX8_fault_49 : decode cX8_fault 49 = .ok (.lookupswitch 43 #[(0, 27), (1, 35)], 27) := by decide +kernel
theorem dX8_fault_76 : decode cX8_fault 76 = .ok (.aload_n 0, 1) := by decide +kernel
theorem dX8_fault_77 : decode cX8_fault 77 = .ok (.getfield 29, 3) := by decide +kernel
theorem dX8_fault_80 : decode cX8_fault 80 = .ok (.getfield 190, 3) := by decide +kernel
theorem dX8_fault_83 : decode cX8_fault 83 = .ok (.ireturn, 1) := by decide +kernel
theorem dX8_fault_84 : decode cX8_fault 84 = .ok (.aload_n 0, 1) := by decide +kernel
theorem dX8_fault_85 : decode cX8_fault 85 = .ok (.getfield 29, 3) := by decide +kernel
theorem dX8_fault_88 : decode cX8_fault 88 = .ok (.getfield 187, 3) := by decide +kernel
theorem dX8_fault_91 : decode cX8_fault 91 = .ok (.ireturn, 1) := by decide +kernel
theorem dX8_fault_92 : decode cX8_fault 92 = .ok (.aload_n 0, 1) := by decide +kernel
theorem dX8_fault_93 : decode cX8_fault 93 = .ok (.getfield 29, 3) := by decide +kernel
theorem dX8_fault_96 : decode cX8_fault 96 = .ok (.getfield 193, 3) := by decide +kernel
theorem dX8_fault_99 : decode cX8_fault 99 = .ok (.ireturn, 1) := by decide +kernel
theorem dX8_play_0 : decode cX8_play 0 = .ok (.aload_n 0, 1) := by decide +kernel
theorem dX8_play_1 : decode cX8_play 1 = .ok (.getfield 16, 3) := by decide +kernel
theorem dX8_play_4 : decode cX8_play 4 = .ok (.aload_n 0, 1) := by decide +kernel
theorem dX8_play_5 : decode cX8_play 5 = .ok (.getfield 10, 3) := by decide +kernel
theorem dX8_play_8 : decode cX8_play 8 = .ok (.invokevirtual 33, 3) := by decide +kernel
theorem dX8_play_11 : decode cX8_play 11 = .ok (.aload_n 0, 1) := by decide +kernel
theorem dX8_play_12 : decode cX8_play 12 = .ok (.getfield 29, 3) := by decide +kernel
theorem dX8_play_15 : decode cX8_play 15 = .ok (.aload_n 0, 1) := by decide +kernel
theorem dX8_play_16 : decode cX8_play 16 = .ok (.getfield 16, 3) := by decide +kernel
theorem dX8_play_19 : decode cX8_play 19 = .ok (.invokevirtual 183, 3) := by decide +kernel
theorem dX8_play_22 : decode cX8_play 22 = .ok (.istore_n 1, 1) := by decide +kernel
theorem dX8_play_23 : decode cX8_play 23 = .ok (.aload_n 0, 1) := by decide +kernel
theorem dX8_play_24 : decode cX8_play 24 = .ok (.aload_n 0, 1) := by decide +kernel
theorem dX8_play_25 : decode cX8_play 25 = .ok (.getfield 29, 3) := by decide +kernel
theorem dX8_play_28 : decode cX8_play 28 = .ok (.getfield 187, 3) := by decide +kernel
theorem dX8_play_31 : decode cX8_play 31 = .ok (.ifCond .ne 7, 3) := by decide +kernel
theorem dX8_play_34 : decode cX8_play 34 = .ok (.iload_n 1, 1) := by decide +kernel
theorem dX8_play_35 : decode cX8_play 35 = .ok (.goto 5, 3) := by decide +kernel
theorem dX8_play_38 : decode cX8_play 38 = .ok (.ldc 175, 2) := by decide +kernel
theorem dX8_play_40 : decode cX8_play 40 = .ok (.invokevirtual 41, 3) := by decide +kernel
theorem dX8_play_43 : decode cX8_play 43 = .ok (.ireturn, 1) := by decide +kernel
theorem dX8_takeOver_0 : decode cX8_takeOver 0 = .ok (.iload_n 1, 1) := by decide +kernel
theorem dX8_takeOver_1 : decode cX8_takeOver 1 = .ok (.ifCond .lt 25, 3) := by decide +kernel
theorem dX8_takeOver_4 : decode cX8_takeOver 4 = .ok (.aload_n 0, 1) := by decide +kernel
theorem dX8_takeOver_5 : decode cX8_takeOver 5 = .ok (.getfield 22, 3) := by decide +kernel
theorem dX8_takeOver_8 : decode cX8_takeOver 8 = .ok (.aload_n 0, 1) := by decide +kernel
theorem dX8_takeOver_9 : decode cX8_takeOver 9 = .ok (.getfield 10, 3) := by decide +kernel
theorem dX8_takeOver_12 : decode cX8_takeOver 12 = .ok (.invokevirtual 196, 3) := by decide +kernel
theorem dX8_takeOver_15 : decode cX8_takeOver 15 = .ok (.aload_n 0, 1) := by decide +kernel
theorem dX8_takeOver_16 : decode cX8_takeOver 16 = .ok (.getfield 10, 3) := by decide +kernel
theorem dX8_takeOver_19 : decode cX8_takeOver 19 = .ok (.aload_n 0, 1) := by decide +kernel
theorem dX8_takeOver_20 : decode cX8_takeOver 20 = .ok (.getfield 16, 3) := by decide +kernel
theorem dX8_takeOver_23 : decode cX8_takeOver 23 = .ok (.invokevirtual 33, 3) := by decide +kernel
theorem dX8_takeOver_26 : decode cX8_takeOver 26 = .ok (.iload_n 1, 1) := by decide +kernel
theorem dX8_takeOver_27 : decode cX8_takeOver 27 = .ok (.ireturn, 1) := by decide +kernel
theorem dX8_isWithin_0 : decode cX8_isWithin 0 = .ok (.iload_n 0, 1) := by decide +kernel
theorem dX8_isWithin_1 : decode cX8_isWithin 1 = .ok (.iload_n 1, 1) := by decide +kernel
theorem dX8_isWithin_2 : decode cX8_isWithin 2 = .ok (.if_icmp .lt 12, 3) := by decide +kernel
theorem dX8_isWithin_5 : decode cX8_isWithin 5 = .ok (.iload_n 0, 1) := by decide +kernel
theorem dX8_isWithin_6 : decode cX8_isWithin 6 = .ok (.iload_n 2, 1) := by decide +kernel
theorem dX8_isWithin_7 : decode cX8_isWithin 7 = .ok (.if_icmp .gt 7, 3) := by decide +kernel
theorem dX8_isWithin_10 : decode cX8_isWithin 10 = .ok (.iconst 1, 1) := by decide +kernel
theorem dX8_isWithin_11 : decode cX8_isWithin 11 = .ok (.goto 4, 3) := by decide +kernel
theorem dX8_isWithin_14 : decode cX8_isWithin 14 = .ok (.iconst 0, 1) := by decide +kernel
theorem dX8_isWithin_15 : decode cX8_isWithin 15 = .ok (.ireturn, 1) := by decide +kernel
theorem dX8_bitsOf_0 : decode cX8_bitsOf 0 = .ok (.fload_n 0, 1) := by decide +kernel
theorem dX8_bitsOf_1 : decode cX8_bitsOf 1 = .ok (.fstore_n 1, 1) := by decide +kernel
theorem dX8_bitsOf_2 : decode cX8_bitsOf 2 = .ok (.bipush 127, 2) := by decide +kernel
theorem dX8_bitsOf_4 : decode cX8_bitsOf 4 = .ok (.istore_n 2, 1) := by decide +kernel
theorem dX8_bitsOf_5 : decode cX8_bitsOf 5 = .ok (.iconst 0, 1) := by decide +kernel
theorem dX8_bitsOf_6 : decode cX8_bitsOf 6 = .ok (.istore_n 3, 1) := by decide +kernel
theorem dX8_bitsOf_7 : decode cX8_bitsOf 7 = .ok (.iload_n 3, 1) := by decide +kernel
theorem dX8_bitsOf_8 : decode cX8_bitsOf 8 = .ok (.bipush 127, 2) := by decide +kernel
theorem dX8_bitsOf_10 : decode cX8_bitsOf 10 = .ok (.if_icmp .ge 22, 3) := by decide +kernel
theorem dX8_bitsOf_13 : decode cX8_bitsOf 13 = .ok (.fload_n 1, 1) := by decide +kernel
theorem dX8_bitsOf_14 : decode cX8_bitsOf 14 = .ok (.fconst 2, 1) := by decide +kernel
theorem dX8_bitsOf_15 : decode cX8_bitsOf 15 = .ok (.fcmp .l, 1) := by decide +kernel
theorem dX8_bitsOf_16 : decode cX8_bitsOf 16 = .ok (.ifCond .lt 16, 3) := by decide +kernel
theorem dX8_bitsOf_19 : decode cX8_bitsOf 19 = .ok (.fload_n 1, 1) := by decide +kernel
theorem dX8_bitsOf_20 : decode cX8_bitsOf 20 = .ok (.fconst 2, 1) := by decide +kernel
theorem dX8_bitsOf_21 : decode cX8_bitsOf 21 = .ok (.fdiv, 1) := by decide +kernel
theorem dX8_bitsOf_22 : decode cX8_bitsOf 22 = .ok (.fstore_n 1, 1) := by decide +kernel
theorem dX8_bitsOf_23 : decode cX8_bitsOf 23 = .ok (.iinc 2 1, 3) := by decide +kernel
theorem dX8_bitsOf_26 : decode cX8_bitsOf 26 = .ok (.iinc 3 1, 3) := by decide +kernel
theorem dX8_bitsOf_29 : decode cX8_bitsOf 29 = .ok (.goto (-22), 3) := by decide +kernel
theorem dX8_bitsOf_32 : decode cX8_bitsOf 32 = .ok (.iload_n 2, 1) := by decide +kernel
theorem dX8_bitsOf_33 : decode cX8_bitsOf 33 = .ok (.bipush 23, 2) := by decide +kernel
theorem dX8_bitsOf_35 : decode cX8_bitsOf 35 = .ok (.ishl, 1) := by decide +kernel
theorem dX8_bitsOf_36 : decode cX8_bitsOf 36 = .ok (.fload_n 1, 1) := by decide +kernel
theorem dX8_bitsOf_37 : decode cX8_bitsOf 37 = .ok (.fconst 1, 1) := by decide +kernel
theorem dX8_bitsOf_38 : decode cX8_bitsOf 38 = .ok (.fsub, 1) := by decide +kernel
theorem dX8_bitsOf_39 : decode cX8_bitsOf 39 = .ok (.ldc 199, 2) := by decide +kernel
theorem dX8_bitsOf_41 : decode cX8_bitsOf 41 = .ok (.fmul, 1) := by decide +kernel
theorem dX8_bitsOf_42 : decode cX8_bitsOf 42 = .ok (.f2i, 1) := by decide +kernel
theorem dX8_bitsOf_43 : decode cX8_bitsOf 43 = .ok (.ior, 1) := by decide +kernel
theorem dX8_bitsOf_44 : decode cX8_bitsOf 44 = .ok (.ireturn, 1) := by decide +kernel
theorem dX9_init_0 : decode cX9_init 0 = .ok (.aload_n 0, 1) := by decide +kernel
theorem dX9_init_1 : decode cX9_init 1 = .ok (.invokespecial 1, 3) := by decide +kernel
theorem dX9_init_4 : decode cX9_init 4 = .ok (.aload_n 0, 1) := by decide +kernel
theorem dX9_init_5 : decode cX9_init 5 = .ok (.sipush 136, 3) := by decide +kernel
theorem dX9_init_8 : decode cX9_init 8 = .ok (.newarray .int, 2) := by decide +kernel
theorem dX9_init_10 : decode cX9_init 10 = .ok (.putfield 7, 3) := by decide +kernel
theorem dX9_init_13 : decode cX9_init 13 = .ok (.aload_n 0, 1) := by decide +kernel
theorem dX9_init_14 : decode cX9_init 14 = .ok (.sipush 544, 3) := by decide +kernel
theorem dX9_init_17 : decode cX9_init 17 = .ok (.newarray .int, 2) := by decide +kernel
theorem dX9_init_19 : decode cX9_init 19 = .ok (.putfield 13, 3) := by decide +kernel
theorem dX9_init_22 : decode cX9_init 22 = .ok (.aload_n 0, 1) := by decide +kernel
theorem dX9_init_23 : decode cX9_init 23 = .ok (.sipush 136, 3) := by decide +kernel
theorem dX9_init_26 : decode cX9_init 26 = .ok (.newarray .int, 2) := by decide +kernel
theorem dX9_init_28 : decode cX9_init 28 = .ok (.putfield 16, 3) := by decide +kernel
theorem dX9_init_31 : decode cX9_init 31 = .ok (.aload_n 0, 1) := by decide +kernel
theorem dX9_init_32 : decode cX9_init 32 = .ok (.sipush 136, 3) := by decide +kernel
theorem dX9_init_35 : decode cX9_init 35 = .ok (.newarray .int, 2) := by decide +kernel
theorem dX9_init_37 : decode cX9_init 37 = .ok (.putfield 19, 3) := by decide +kernel
theorem dX9_init_40 : decode cX9_init 40 = .ok (.aload_n 0, 1) := by decide +kernel
theorem dX9_init_41 : decode cX9_init 41 = .ok (.bipush 60, 2) := by decide +kernel
theorem dX9_init_43 : decode cX9_init 43 = .ok (.newarray .int, 2) := by decide +kernel
theorem dX9_init_45 : decode cX9_init 45 = .ok (.putfield 22, 3) := by decide +kernel
theorem dX9_init_48 : decode cX9_init 48 = .ok (.aload_n 0, 1) := by decide +kernel
theorem dX9_init_49 : decode cX9_init 49 = .ok (.iconst 3, 1) := by decide +kernel
theorem dX9_init_50 : decode cX9_init 50 = .ok (.newarray .int, 2) := by decide +kernel
theorem dX9_init_52 : decode cX9_init 52 = .ok (.putfield 25, 3) := by decide +kernel
theorem dX9_init_55 : decode cX9_init 55 = .ok (.aload_n 0, 1) := by decide +kernel
theorem dX9_init_56 : decode cX9_init 56 = .ok (.getfield 7, 3) := by decide +kernel
theorem dX9_init_59 : decode cX9_init 59 = .ok (.iconst 4, 1) := by decide +kernel
theorem dX9_init_60 : decode cX9_init 60 = .ok (.iconst 1, 1) := by decide +kernel
theorem dX9_init_61 : decode cX9_init 61 = .ok (.iastore, 1) := by decide +kernel
theorem dX9_init_62 : decode cX9_init 62 = .ok (.aload_n 0, 1) := by decide +kernel
theorem dX9_init_63 : decode cX9_init 63 = .ok (.getfield 7, 3) := by decide +kernel
theorem dX9_init_66 : decode cX9_init 66 = .ok (.bipush 15, 2) := by decide +kernel
theorem dX9_init_68 : decode cX9_init 68 = .ok (.iconst 2, 1) := by decide +kernel
theorem dX9_init_69 : decode cX9_init 69 = .ok (.iastore, 1) := by decide +kernel
theorem dX9_init_70 : decode cX9_init 70 = .ok (.aload_n 0, 1) := by decide +kernel
theorem dX9_init_71 : decode cX9_init 71 = .ok (.getfield 7, 3) := by decide +kernel
theorem dX9_init_74 : decode cX9_init 74 = .ok (.bipush 16, 2) := by decide +kernel
theorem dX9_init_76 : decode cX9_init 76 = .ok (.bipush 100, 2) := by decide +kernel
theorem dX9_init_78 : decode cX9_init 78 = .ok (.iastore, 1) := by decide +kernel
theorem dX9_init_79 : decode cX9_init 79 = .ok (.aload_n 0, 1) := by decide +kernel
theorem dX9_init_80 : decode cX9_init 80 = .ok (.getfield 7, 3) := by decide +kernel
theorem dX9_init_83 : decode cX9_init 83 = .ok (.bipush 17, 2) := by decide +kernel
theorem dX9_init_85 : decode cX9_init 85 = .ok (.iconst 3, 1) := by decide +kernel
theorem dX9_init_86 : decode cX9_init 86 = .ok (.iastore, 1) := by decide +kernel
theorem dX9_init_87 : decode cX9_init 87 = .ok (.aload_n 0, 1) := by decide +kernel
theorem dX9_init_88 : decode cX9_init 88 = .ok (.getfield 7, 3) := by decide +kernel
theorem dX9_init_91 : decode cX9_init 91 = .ok (.bipush 18, 2) := by decide +kernel
theorem dX9_init_93 : decode cX9_init 93 = .ok (.bipush 10, 2) := by decide +kernel
theorem dX9_init_95 : decode cX9_init 95 = .ok (.iastore, 1) := by decide +kernel
theorem dX9_init_96 : decode cX9_init 96 = .ok (.return_, 1) := by decide +kernel
theorem dX9_in_0 : decode cX9_in 0 = .ok (.iload_n 0, 1) := by decide +kernel
theorem dX9_in_1 : decode cX9_in 1 = .ok (.iload_n 1, 1) := by decide +kernel
theorem dX9_in_2 : decode cX9_in 2 = .ok (.if_icmp .lt 12, 3) := by decide +kernel
theorem dX9_in_5 : decode cX9_in 5 = .ok (.iload_n 0, 1) := by decide +kernel
theorem dX9_in_6 : decode cX9_in 6 = .ok (.iload_n 2, 1) := by decide +kernel
theorem dX9_in_7 : decode cX9_in 7 = .ok (.if_icmp .gt 7, 3) := by decide +kernel
theorem dX9_in_10 : decode cX9_in 10 = .ok (.iconst 1, 1) := by decide +kernel
theorem dX9_in_11 : decode cX9_in 11 = .ok (.goto 4, 3) := by decide +kernel
theorem dX9_in_14 : decode cX9_in 14 = .ok (.iconst 0, 1) := by decide +kernel
theorem dX9_in_15 : decode cX9_in 15 = .ok (.ireturn, 1) := by decide +kernel
theorem dX9_lesser_0 : decode cX9_lesser 0 = .ok (.iload_n 0, 1) := by decide +kernel
theorem dX9_lesser_1 : decode cX9_lesser 1 = .ok (.iload_n 1, 1) := by decide +kernel
theorem dX9_lesser_2 : decode cX9_lesser 2 = .ok (.if_icmp .ge 7, 3) := by decide +kernel
theorem dX9_lesser_5 : decode cX9_lesser 5 = .ok (.iload_n 0, 1) := by decide +kernel
theorem dX9_lesser_6 : decode cX9_lesser 6 = .ok (.goto 4, 3) := by decide +kernel
theorem dX9_lesser_9 : decode cX9_lesser 9 = .ok (.iload_n 1, 1) := by decide +kernel
theorem dX9_lesser_10 : decode cX9_lesser 10 = .ok (.ireturn, 1) := by decide +kernel
theorem dX9_copies_0 : decode cX9_copies 0 = .ok (.iconst 0, 1) := by decide +kernel
theorem dX9_copies_1 : decode cX9_copies 1 = .ok (.istore_n 2, 1) := by decide +kernel
theorem dX9_copies_2 : decode cX9_copies 2 = .ok (.iload_n 2, 1) := by decide +kernel
theorem dX9_copies_3 : decode cX9_copies 3 = .ok (.sipush 136, 3) := by decide +kernel
theorem dX9_copies_6 : decode cX9_copies 6 = .ok (.if_icmp .ge 15, 3) := by decide +kernel
theorem dX9_copies_9 : decode cX9_copies 9 = .ok (.aload_n 1, 1) := by decide +kernel
theorem dX9_copies_10 : decode cX9_copies 10 = .ok (.iload_n 2, 1) := by decide +kernel
theorem dX9_copies_11 : decode cX9_copies 11 = .ok (.aload_n 0, 1) := by decide +kernel
theorem dX9_copies_12 : decode cX9_copies 12 = .ok (.iload_n 2, 1) := by decide +kernel
theorem dX9_copies_13 : decode cX9_copies 13 = .ok (.iaload, 1) := by decide +kernel
theorem dX9_copies_14 : decode cX9_copies 14 = .ok (.iastore, 1) := by decide +kernel
theorem dX9_copies_15 : decode cX9_copies 15 = .ok (.iinc 2 1, 3) := by decide +kernel
theorem dX9_copies_18 : decode cX9_copies 18 = .ok (.goto (-16), 3) := by decide +kernel
theorem dX9_copies_21 : decode cX9_copies 21 = .ok (.return_, 1) := by decide +kernel
theorem dX9_changes_0 : decode cX9_changes 0 = .ok (.aload_n 0, 1) := by decide +kernel
theorem dX9_changes_1 : decode cX9_changes 1 = .ok (.getfield 28, 3) := by decide +kernel
theorem dX9_changes_4 : decode cX9_changes 4 = .ok (.ifCond .eq 4, 3) := by decide +kernel
theorem dX9_changes_7 : decode cX9_changes 7 = .ok (.return_, 1) := by decide +kernel
theorem dX9_changes_8 : decode cX9_changes 8 = .ok (.aload_n 0, 1) := by decide +kernel
theorem dX9_changes_9 : decode cX9_changes 9 = .ok (.getfield 32, 3) := by decide +kernel
theorem dX9_changes_12 : decode cX9_changes 12 = .ok (.iconst 4, 1) := by decide +kernel
theorem dX9_changes_13 : decode cX9_changes 13 = .ok (.if_icmp .ne 44, 3) := by decide +kernel
theorem dX9_changes_16 : decode cX9_changes 16 = .ok (.iconst 0, 1) := by decide +kernel
theorem dX9_changes_17 : decode cX9_changes 17 = .ok (.istore_n 1, 1) := by decide +kernel
theorem dX9_changes_18 : decode cX9_changes 18 = .ok (.iload_n 1, 1) := by decide +kernel
theorem dX9_changes_19 : decode cX9_changes 19 = .ok (.sipush 408, 3) := by decide +kernel
theorem dX9_changes_22 : decode cX9_changes 22 = .ok (.if_icmp .ge 25, 3) := by decide +kernel
theorem dX9_changes_25 : decode cX9_changes 25 = .ok (.aload_n 0, 1) := by decide +kernel
theorem dX9_changes_26 : decode cX9_changes 26 = .ok (.getfield 13, 3) := by decide +kernel
theorem dX9_changes_29 : decode cX9_changes 29 = .ok (.iload_n 1, 1) := by decide +kernel
theorem dX9_changes_30 : decode cX9_changes 30 = .ok (.aload_n 0, 1) := by decide +kernel
theorem dX9_changes_31 : decode cX9_changes 31 = .ok (.getfield 13, 3) := by decide +kernel
theorem dX9_changes_34 : decode cX9_changes 34 = .ok (.iload_n 1, 1) := by decide +kernel
theorem dX9_changes_35 : decode cX9_changes 35 = .ok (.sipush 136, 3) := by decide +kernel
theorem dX9_changes_38 : decode cX9_changes 38 = .ok (.iadd, 1) := by decide +kernel
theorem dX9_changes_39 : decode cX9_changes 39 = .ok (.iaload, 1) := by decide +kernel
theorem dX9_changes_40 : decode cX9_changes 40 = .ok (.iastore, 1) := by decide +kernel
theorem dX9_changes_41 : decode cX9_changes 41 = .ok (.iinc 1 1, 3) := by decide +kernel
theorem dX9_changes_44 : decode cX9_changes 44 = .ok (.goto (-26), 3) := by decide +kernel
theorem dX9_changes_47 : decode cX9_changes 47 = .ok (.aload_n 0, 1) := by decide +kernel
theorem dX9_changes_48 : decode cX9_changes 48 = .ok (.dup, 1) := by decide +kernel
theorem dX9_changes_49 : decode cX9_changes 49 = .ok (.getfield 32, 3) := by decide +kernel
theorem dX9_changes_52 : decode cX9_changes 52 = .ok (.iconst 1, 1) := by decide +kernel
theorem dX9_changes_53 : decode cX9_changes 53 = .ok (.isub, 1) := by decide +kernel
theorem dX9_changes_54 : decode cX9_changes 54 = .ok (.putfield 32, 3) := by decide +kernel
theorem dX9_changes_57 : decode cX9_changes 57 = .ok (.iconst 0, 1) := by decide +kernel
theorem dX9_changes_58 : decode cX9_changes 58 = .ok (.istore_n 1, 1) := by decide +kernel
theorem dX9_changes_59 : decode cX9_changes 59 = .ok (.iload_n 1, 1) := by decide +kernel
theorem dX9_changes_60 : decode cX9_changes 60 = .ok (.sipush 136, 3) := by decide +kernel
theorem dX9_changes_63 : decode cX9_changes 63 = .ok (.if_icmp .ge 30, 3) := by decide +kernel
theorem dX9_changes_66 : decode cX9_changes 66 = .ok (.aload_n 0, 1) := by decide +kernel
theorem dX9_changes_67 : decode cX9_changes 67 = .ok (.getfield 13, 3) := by decide +kernel
theorem dX9_changes_70 : decode cX9_changes 70 = .ok (.sipush 136, 3) := by decide +kernel
theorem dX9_changes_73 : decode cX9_changes 73 = .ok (.aload_n 0, 1) := by decide +kernel
theorem dX9_changes_74 : decode cX9_changes 74 = .ok (.getfield 32, 3) := by decide +kernel
theorem dX9_changes_77 : decode cX9_changes 77 = .ok (.imul, 1) := by decide +kernel
theorem dX9_changes_78 : decode cX9_changes 78 = .ok (.iload_n 1, 1) := by decide +kernel
theorem dX9_changes_79 : decode cX9_changes 79 = .ok (.iadd, 1) := by decide +kernel
theorem dX9_changes_80 : decode cX9_changes 80 = .ok (.aload_n 0, 1) := by decide +kernel
theorem dX9_changes_81 : decode cX9_changes 81 = .ok (.getfield 7, 3) := by decide +kernel
theorem dX9_changes_84 : decode cX9_changes 84 = .ok (.iload_n 1, 1) := by decide +kernel
theorem dX9_changes_85 : decode cX9_changes 85 = .ok (.iaload, 1) := by decide +kernel
theorem dX9_changes_86 : decode cX9_changes 86 = .ok (.iastore, 1) := by decide +kernel
theorem dX9_changes_87 : decode cX9_changes 87 = .ok (.iinc 1 1, 3) := by decide +kernel
theorem dX9_changes_90 : decode cX9_changes 90 = .ok (.goto (-31), 3) := by decide +kernel
theorem dX9_changes_93 : decode cX9_changes 93 = .ok (.aload_n 0, 1) := by decide +kernel
theorem dX9_changes_94 : decode cX9_changes 94 = .ok (.dup, 1) := by decide +kernel
theorem dX9_changes_95 : decode cX9_changes 95 = .ok (.getfield 32, 3) := by decide +kernel
theorem dX9_changes_98 : decode cX9_changes 98 = .ok (.iconst 1, 1) := by decide +kernel
theorem dX9_changes_99 : decode cX9_changes 99 = .ok (.iadd, 1) := by decide +kernel
theorem dX9_changes_100 : decode cX9_changes 100 = .ok (.putfield 32, 3) := by decide +kernel
theorem dX9_changes_103 : decode cX9_changes 103 = .ok (.return_, 1) := by decide +kernel
theorem dX9_isMule_0 : decode cX9_isMule 0 = .ok (.iload_n 1, 1) := by decide +kernel
theorem dX9_isMule_1 : decode cX9_isMule 1 = .ok (.ifCond .lt 17, 3) := by decide +kernel
theorem dX9_isMule_4 : decode cX9_isMule 4 = .ok (.iload_n 1, 1) := by decide +kernel
theorem dX9_isMule_5 : decode cX9_isMule 5 = .ok (.aload_n 0, 1) := by decide +kernel
theorem dX9_isMule_6 : decode cX9_isMule 6 = .ok (.getfield 7, 3) := by decide +kernel
theorem dX9_isMule_9 : decode cX9_isMule 9 = .ok (.iconst 0, 1) := by decide +kernel
theorem dX9_isMule_10 : decode cX9_isMule 10 = .ok (.iaload, 1) := by decide +kernel
theorem dX9_isMule_11 : decode cX9_isMule 11 = .ok (.if_icmp .ge 7, 3) := by decide +kernel
theorem dX9_isMule_14 : decode cX9_isMule 14 = .ok (.iconst 1, 1) := by decide +kernel
theorem dX9_isMule_15 : decode cX9_isMule 15 = .ok (.goto 4, 3) := by decide +kernel
theorem dX9_isMule_18 : decode cX9_isMule 18 = .ok (.iconst 0, 1) := by decide +kernel
theorem dX9_isMule_19 : decode cX9_isMule 19 = .ok (.ireturn, 1) := by decide +kernel
theorem dX9_of_0 : decode cX9_of 0 = .ok (.aload_n 0, 1) := by decide +kernel
theorem dX9_of_1 : decode cX9_of 1 = .ok (.getfield 7, 3) := by decide +kernel
theorem dX9_of_4 : decode cX9_of 4 = .ok (.bipush 19, 2) := by decide +kernel
theorem dX9_of_6 : decode cX9_of 6 = .ok (.bipush 9, 2) := by decide +kernel
theorem dX9_of_8 : decode cX9_of 8 = .ok (.iload_n 1, 1) := by decide +kernel
theorem dX9_of_9 : decode cX9_of 9 = .ok (.imul, 1) := by decide +kernel
theorem dX9_of_10 : decode cX9_of 10 = .ok (.iadd, 1) := by decide +kernel
theorem dX9_of_11 : decode cX9_of 11 = .ok (.iload_n 2, 1) := by decide +kernel
theorem dX9_of_12 : decode cX9_of 12 = .ok (.iadd, 1) := by decide +kernel
theorem dX9_of_13 : decode cX9_of 13 = .ok (.iaload, 1) := by decide +kernel
theorem dX9_of_14 : decode cX9_of 14 = .ok (.ireturn, 1) := by decide +kernel
theorem dX9_sets_0 : decode cX9_sets 0 = .ok (.aload_n 0, 1) := by decide +kernel
theorem dX9_sets_1 : decode cX9_sets 1 = .ok (.getfield 7, 3) := by decide +kernel
theorem dX9_sets_4 : decode cX9_sets 4 = .ok (.bipush 19, 2) := by decide +kernel
theorem dX9_sets_6 : decode cX9_sets 6 = .ok (.bipush 9, 2) := by decide +kernel
theorem dX9_sets_8 : decode cX9_sets 8 = .ok (.iload_n 1, 1) := by decide +kernel
theorem dX9_sets_9 : decode cX9_sets 9 = .ok (.imul, 1) := by decide +kernel
theorem dX9_sets_10 : decode cX9_sets 10 = .ok (.iadd, 1) := by decide +kernel
theorem dX9_sets_11 : decode cX9_sets 11 = .ok (.iload_n 2, 1) := by decide +kernel
theorem dX9_sets_12 : decode cX9_sets 12 = .ok (.iadd, 1) := by decide +kernel
theorem dX9_sets_13 : decode cX9_sets 13 = .ok (.iload_n 3, 1) := by decide +kernel
theorem dX9_sets_14 : decode cX9_sets 14 = .ok (.iastore, 1) := by decide +kernel
theorem dX9_sets_15 : decode cX9_sets 15 = .ok (.return_, 1) := by decide +kernel
theorem dX9_ofGroup_0 : decode cX9_ofGroup 0 = .ok (.aload_n 0, 1) := by decide +kernel
theorem dX9_ofGroup_1 : decode cX9_ofGroup 1 = .ok (.getfield 7, 3) := by decide +kernel
theorem dX9_ofGroup_4 : decode cX9_ofGroup 4 = .ok (.bipush 55, 2) := by decide +kernel
theorem dX9_ofGroup_6 : decode cX9_ofGroup 6 = .ok (.bipush 6, 2) := by decide +kernel
theorem dX9_ofGroup_8 : decode cX9_ofGroup 8 = .ok (.iload_n 1, 1) := by decide +kernel
theorem dX9_ofGroup_9 : decode cX9_ofGroup 9 = .ok (.imul, 1) := by decide +kernel
theorem dX9_ofGroup_10 : decode cX9_ofGroup 10 = .ok (.iadd, 1) := by decide +kernel
theorem dX9_ofGroup_11 : decode cX9_ofGroup 11 = .ok (.iload_n 2, 1) := by decide +kernel
theorem dX9_ofGroup_12 : decode cX9_ofGroup 12 = .ok (.iadd, 1) := by decide +kernel
theorem dX9_ofGroup_13 : decode cX9_ofGroup 13 = .ok (.iaload, 1) := by decide +kernel
theorem dX9_ofGroup_14 : decode cX9_ofGroup 14 = .ok (.ireturn, 1) := by decide +kernel
theorem dX9_placeOf_0 : decode cX9_placeOf 0 = .ok (.iconst 0, 1) := by decide +kernel
theorem dX9_placeOf_1 : decode cX9_placeOf 1 = .ok (.istore_n 2, 1) := by decide +kernel
theorem dX9_placeOf_2 : decode cX9_placeOf 2 = .ok (.iload_n 2, 1) := by decide +kernel
theorem dX9_placeOf_3 : decode cX9_placeOf 3 = .ok (.aload_n 0, 1) := by decide +kernel
theorem dX9_placeOf_4 : decode cX9_placeOf 4 = .ok (.getfield 7, 3) := by decide +kernel
theorem dX9_placeOf_7 : decode cX9_placeOf 7 = .ok (.iconst 1, 1) := by decide +kernel
theorem dX9_placeOf_8 : decode cX9_placeOf 8 = .ok (.iaload, 1) := by decide +kernel
theorem dX9_placeOf_9 : decode cX9_placeOf 9 = .ok (.if_icmp .ge 21, 3) := by decide +kernel
theorem dX9_placeOf_12 : decode cX9_placeOf 12 = .ok (.aload_n 0, 1) := by decide +kernel
theorem dX9_placeOf_13 : decode cX9_placeOf 13 = .ok (.iload_n 2, 1) := by decide +kernel
theorem dX9_placeOf_14 : decode cX9_placeOf 14 = .ok (.iconst 0, 1) := by decide +kernel
theorem dX9_placeOf_15 : decode cX9_placeOf 15 = .ok (.invokevirtual 36, 3) := by decide +kernel
theorem dX9_placeOf_18 : decode cX9_placeOf 18 = .ok (.iload_n 1, 1) := by decide +kernel
theorem dX9_placeOf_19 : decode cX9_placeOf 19 = .ok (.if_icmp .ne 5, 3) := by decide +kernel
theorem dX9_placeOf_22 : decode cX9_placeOf 22 = .ok (.iload_n 2, 1) := by decide +kernel
theorem dX9_placeOf_23 : decode cX9_placeOf 23 = .ok (.ireturn, 1) := by decide +kernel
theorem dX9_placeOf_24 : decode cX9_placeOf 24 = .ok (.iinc 2 1, 3) := by decide +kernel
theorem dX9_placeOf_27 : decode cX9_placeOf 27 = .ok (.goto (-25), 3) := by decide +kernel
theorem dX9_placeOf_30 : decode cX9_placeOf 30 = .ok (.ldc 40, 2) := by decide +kernel
theorem dX9_placeOf_32 : decode cX9_placeOf 32 = .ok (.ireturn, 1) := by decide +kernel
theorem dX9_loavesFrom_0 : decode cX9_loavesFrom 0 = .ok (.iconst 0, 1) := by decide +kernel
theorem dX9_loavesFrom_1 : decode cX9_loavesFrom 1 = .ok (.istore_n 3, 1) := by decide +kernel
theorem dX9_loavesFrom_2 : decode cX9_loavesFrom 2 = .ok (.iload_n 1, 1) := by decide +kernel
theorem dX9_loavesFrom_3 : decode cX9_loavesFrom 3 = .ok (.istore 4, 2) := by decide +kernel
theorem dX9_loavesFrom_5 : decode cX9_loavesFrom 5 = .ok (.iload 4, 2) := by decide +kernel
theorem dX9_loavesFrom_7 : decode cX9_loavesFrom 7 = .ok (.iload_n 2, 1) := by decide +kernel
theorem dX9_loavesFrom_8 : decode cX9_loavesFrom 8 = .ok (.if_icmp .gt 22, 3) := by decide +kernel
theorem dX9_loavesFrom_11 : decode cX9_loavesFrom 11 = .ok (.iload_n 3, 1) := by decide +kernel
theorem dX9_loavesFrom_12 : decode cX9_loavesFrom 12 = .ok (.aload_n 0, 1) := by decide +kernel
theorem dX9_loavesFrom_13 : decode cX9_loavesFrom 13 = .ok (.getfield 7, 3) := by decide +kernel
theorem dX9_loavesFrom_16 : decode cX9_loavesFrom 16 = .ok (.bipush 115, 2) := by decide +kernel
theorem dX9_loavesFrom_18 : decode cX9_loavesFrom 18 = .ok (.iload 4, 2) := by decide +kernel
theorem dX9_loavesFrom_20 : decode cX9_loavesFrom 20 = .ok (.iadd, 1) := by decide +kernel
theorem dX9_loavesFrom_21 : decode cX9_loavesFrom 21 = .ok (.iaload, 1) := by decide +kernel
theorem dX9_loavesFrom_22 : decode cX9_loavesFrom 22 = .ok (.iadd, 1) := by decide +kernel
theorem dX9_loavesFrom_23 : decode cX9_loavesFrom 23 = .ok (.istore_n 3, 1) := by decide +kernel
theorem dX9_loavesFrom_24 : decode cX9_loavesFrom 24 = .ok (.iinc 4 1, 3) := by decide +kernel
theorem dX9_loavesFrom_27 : decode cX9_loavesFrom 27 = .ok (.goto (-22), 3) := by decide +kernel
theorem dX9_loavesFrom_30 : decode cX9_loavesFrom 30 = .ok (.iload_n 3, 1) := by decide +kernel
theorem dX9_loavesFrom_31 : decode cX9_loavesFrom 31 = .ok (.ireturn, 1) := by decide +kernel
theorem dX9_allLoaves_0 : decode cX9_allLoaves 0 = .ok (.aload_n 0, 1) := by decide +kernel
theorem dX9_allLoaves_1 : decode cX9_allLoaves 1 = .ok (.iconst 0, 1) := by decide +kernel
theorem dX9_allLoaves_2 : decode cX9_allLoaves 2 = .ok (.bipush 20, 2) := by decide +kernel
theorem dX9_allLoaves_4 : decode cX9_allLoaves 4 = .ok (.invokevirtual 41, 3) := by decide +kernel
theorem dX9_allLoaves_7 : decode cX9_allLoaves 7 = .ok (.ireturn, 1) := by decide +kernel
theorem dX9_stale_0 : decode cX9_stale 0 = .ok (.aload_n 0, 1) := by decide +kernel
theorem dX9_stale_1 : decode cX9_stale 1 = .ok (.aload_n 0, 1) := by decide +kernel
theorem dX9_stale_2 : decode cX9_stale 2 = .ok (.getfield 7, 3) := by decide +kernel
theorem dX9_stale_5 : decode cX9_stale 5 = .ok (.bipush 17, 2) := by decide +kernel
theorem dX9_stale_7 : decode cX9_stale 7 = .ok (.iaload, 1) := by decide +kernel
theorem dX9_stale_8 : decode cX9_stale 8 = .ok (.iconst 1, 1) := by decide +kernel
theorem dX9_stale_9 : decode cX9_stale 9 = .ok (.iadd, 1) := by decide +kernel
theorem dX9_stale_10 : decode cX9_stale 10 = .ok (.bipush 20, 2) := by decide +kernel
theorem dX9_stale_12 : decode cX9_stale 12 = .ok (.invokevirtual 41, 3) := by decide +kernel
theorem dX9_stale_15 : decode cX9_stale 15 = .ok (.ireturn, 1) := by decide +kernel
theorem dX9_stores_0 : decode cX9_stores 0 = .ok (.aload_n 0, 1) := by decide +kernel
theorem dX9_stores_1 : decode cX9_stores 1 = .ok (.iload_n 1, 1) := by decide +kernel
theorem dX9_stores_2 : decode cX9_stores 2 = .ok (.iconst 4, 1) := by decide +kernel
theorem dX9_stores_3 : decode cX9_stores 3 = .ok (.invokevirtual 44, 3) := by decide +kernel
theorem dX9_stores_6 : decode cX9_stores 6 = .ok (.istore_n 2, 1) := by decide +kernel
theorem dX9_stores_7 : decode cX9_stores 7 = .ok (.aload_n 0, 1) := by decide +kernel
theorem dX9_stores_8 : decode cX9_stores 8 = .ok (.getfield 7, 3) := by decide +kernel
theorem dX9_stores_11 : decode cX9_stores 11 = .ok (.iconst 3, 1) := by decide +kernel
theorem dX9_stores_12 : decode cX9_stores 12 = .ok (.iaload, 1) := by decide +kernel
theorem dX9_stores_13 : decode cX9_stores 13 = .ok (.aload_n 0, 1) := by decide +kernel
theorem dX9_stores_14 : decode cX9_stores 14 = .ok (.iload_n 1, 1) := by decide +kernel
theorem dX9_stores_15 : decode cX9_stores 15 = .ok (.iconst 5, 1) := by decide +kernel
theorem dX9_stores_16 : decode cX9_stores 16 = .ok (.invokevirtual 44, 3) := by decide +kernel
theorem dX9_stores_19 : decode cX9_stores 19 = .ok (.isub, 1) := by decide +kernel
theorem dX9_stores_20 : decode cX9_stores 20 = .ok (.istore_n 3, 1) := by decide +kernel
theorem dX9_stores_21 : decode cX9_stores 21 = .ok (.aload_n 0, 1) := by decide +kernel
theorem dX9_stores_22 : decode cX9_stores 22 = .ok (.iload_n 1, 1) := by decide +kernel
theorem dX9_stores_23 : decode cX9_stores 23 = .ok (.iconst 4, 1) := by decide +kernel
theorem dX9_stores_24 : decode cX9_stores 24 = .ok (.iconst 0, 1) := by decide +kernel
theorem dX9_stores_25 : decode cX9_stores 25 = .ok (.invokevirtual 47, 3) := by decide +kernel
theorem dX9_stores_28 : decode cX9_stores 28 = .ok (.aload_n 0, 1) := by decide +kernel
theorem dX9_stores_29 : decode cX9_stores 29 = .ok (.iload_n 1, 1) := by decide +kernel
theorem dX9_stores_30 : decode cX9_stores 30 = .ok (.bipush 7, 2) := by decide +kernel
theorem dX9_stores_32 : decode cX9_stores 32 = .ok (.aload_n 0, 1) := by decide +kernel
theorem dX9_stores_33 : decode cX9_stores 33 = .ok (.iload_n 1, 1) := by decide +kernel
theorem dX9_stores_34 : decode cX9_stores 34 = .ok (.bipush 7, 2) := by decide +kernel
theorem dX9_stores_36 : decode cX9_stores 36 = .ok (.invokevirtual 44, 3) := by decide +kernel
theorem dX9_stores_39 : decode cX9_stores 39 = .ok (.iload_n 2, 1) := by decide +kernel
theorem dX9_stores_40 : decode cX9_stores 40 = .ok (.iadd, 1) := by decide +kernel
theorem dX9_stores_41 : decode cX9_stores 41 = .ok (.invokevirtual 47, 3) := by decide +kernel
theorem dX9_stores_44 : decode cX9_stores 44 = .ok (.iload_n 3, 1) := by decide +kernel
theorem dX9_stores_45 : decode cX9_stores 45 = .ok (.bipush 20, 2) := by decide +kernel
theorem dX9_stores_47 : decode cX9_stores 47 = .ok (.if_icmp .le 15, 3) := by decide +kernel
theorem dX9_stores_50 : decode cX9_stores 50 = .ok (.aload_n 0, 1) := by decide +kernel
theorem dX9_stores_51 : decode cX9_stores 51 = .ok (.getfield 7, 3) := by decide +kernel
theorem dX9_stores_54 : decode cX9_stores 54 = .ok (.bipush 9, 2) := by decide +kernel
theorem dX9_stores_56 : decode cX9_stores 56 = .ok (.dup2, 1) := by decide +kernel
theorem dX9_stores_57 : decode cX9_stores 57 = .ok (.iaload, 1) := by decide +kernel
theorem dX9_stores_58 : decode cX9_stores 58 = .ok (.iload_n 2, 1) := by decide +kernel
theorem dX9_stores_59 : decode cX9_stores 59 = .ok (.iadd, 1) := by decide +kernel
theorem dX9_stores_60 : decode cX9_stores 60 = .ok (.iastore, 1) := by decide +kernel
theorem dX9_stores_61 : decode cX9_stores 61 = .ok (.return_, 1) := by decide +kernel
theorem dX9_stores_62 : decode cX9_stores 62 = .ok (.iload_n 2, 1) := by decide +kernel
theorem dX9_stores_63 : decode cX9_stores 63 = .ok (.bipush 80, 2) := by decide +kernel
theorem dX9_stores_65 : decode cX9_stores 65 = .ok (.aload_n 0, 1) := by decide +kernel
theorem dX9_stores_66 : decode cX9_stores 66 = .ok (.invokevirtual 51, 3) := by decide +kernel
theorem dX9_stores_69 : decode cX9_stores 69 = .ok (.isub, 1) := by decide +kernel
theorem dX9_stores_70 : decode cX9_stores 70 = .ok (.invokestatic 55, 3) := by decide +kernel
theorem dX9_stores_73 : decode cX9_stores 73 = .ok (.istore 4, 2) := by decide +kernel
theorem dX9_stores_75 : decode cX9_stores 75 = .ok (.aload_n 0, 1) := by decide +kernel
theorem dX9_stores_76 : decode cX9_stores 76 = .ok (.getfield 7, 3) := by decide +kernel
theorem dX9_stores_79 : decode cX9_stores 79 = .ok (.bipush 115, 2) := by decide +kernel
theorem dX9_stores_81 : decode cX9_stores 81 = .ok (.iload_n 3, 1) := by decide +kernel
theorem dX9_stores_82 : decode cX9_stores 82 = .ok (.iadd, 1) := by decide +kernel
theorem dX9_stores_83 : decode cX9_stores 83 = .ok (.dup2, 1) := by decide +kernel
theorem dX9_stores_84 : decode cX9_stores 84 = .ok (.iaload, 1) := by decide +kernel
theorem dX9_stores_85 : decode cX9_stores 85 = .ok (.iload 4, 2) := by decide +kernel
theorem dX9_stores_87 : decode cX9_stores 87 = .ok (.iadd, 1) := by decide +kernel
theorem dX9_stores_88 : decode cX9_stores 88 = .ok (.iastore, 1) := by decide +kernel
theorem dX9_stores_89 : decode cX9_stores 89 = .ok (.aload_n 0, 1) := by decide +kernel
theorem dX9_stores_90 : decode cX9_stores 90 = .ok (.getfield 7, 3) := by decide +kernel
theorem dX9_stores_93 : decode cX9_stores 93 = .ok (.bipush 10, 2) := by decide +kernel
theorem dX9_stores_95 : decode cX9_stores 95 = .ok (.dup2, 1) := by decide +kernel
theorem dX9_stores_96 : decode cX9_stores 96 = .ok (.iaload, 1) := by decide +kernel
theorem dX9_stores_97 : decode cX9_stores 97 = .ok (.iload_n 2, 1) := by decide +kernel
theorem dX9_stores_98 : decode cX9_stores 98 = .ok (.iload 4, 2) := by decide +kernel
theorem dX9_stores_100 : decode cX9_stores 100 = .ok (.isub, 1) := by decide +kernel
theorem dX9_stores_101 : decode cX9_stores 101 = .ok (.iadd, 1) := by decide +kernel
theorem dX9_stores_102 : decode cX9_stores 102 = .ok (.iastore, 1) := by decide +kernel
theorem dX9_stores_103 : decode cX9_stores 103 = .ok (.return_, 1) := by decide +kernel
theorem dX9_comesHome_0 : decode cX9_comesHome 0 = .ok (.aload_n 0, 1) := by decide +kernel
theorem dX9_comesHome_1 : decode cX9_comesHome 1 = .ok (.iload_n 1, 1) := by decide +kernel
theorem dX9_comesHome_2 : decode cX9_comesHome 2 = .ok (.bipush 6, 2) := by decide +kernel
theorem dX9_comesHome_4 : decode cX9_comesHome 4 = .ok (.invokevirtual 44, 3) := by decide +kernel
theorem dX9_comesHome_7 : decode cX9_comesHome 7 = .ok (.aload_n 0, 1) := by decide +kernel
theorem dX9_comesHome_8 : decode cX9_comesHome 8 = .ok (.iload_n 1, 1) := by decide +kernel
theorem dX9_comesHome_9 : decode cX9_comesHome 9 = .ok (.iconst 1, 1) := by decide +kernel
theorem dX9_comesHome_10 : decode cX9_comesHome 10 = .ok (.invokevirtual 44, 3) := by decide +kernel
theorem dX9_comesHome_13 : decode cX9_comesHome 13 = .ok (.if_icmp .lt 7, 3) := by decide +kernel
theorem dX9_comesHome_16 : decode cX9_comesHome 16 = .ok (.iconst 1, 1) := by decide +kernel
theorem dX9_comesHome_17 : decode cX9_comesHome 17 = .ok (.goto 4, 3) := by decide +kernel
theorem dX9_comesHome_20 : decode cX9_comesHome 20 = .ok (.iconst 0, 1) := by decide +kernel
theorem dX9_comesHome_21 : decode cX9_comesHome 21 = .ok (.istore_n 2, 1) := by decide +kernel
theorem dX9_comesHome_22 : decode cX9_comesHome 22 = .ok (.aload_n 0, 1) := by decide +kernel
theorem dX9_comesHome_23 : decode cX9_comesHome 23 = .ok (.iload_n 1, 1) := by decide +kernel
theorem dX9_comesHome_24 : decode cX9_comesHome 24 = .ok (.iconst 2, 1) := by decide +kernel
theorem dX9_comesHome_25 : decode cX9_comesHome 25 = .ok (.iload_n 2, 1) := by decide +kernel
theorem dX9_comesHome_26 : decode cX9_comesHome 26 = .ok (.ifCond .eq 7, 3) := by decide +kernel
theorem dX9_comesHome_29 : decode cX9_comesHome 29 = .ok (.iconst 3, 1) := by decide +kernel
theorem dX9_comesHome_30 : decode cX9_comesHome 30 = .ok (.goto 4, 3) := by decide +kernel
theorem dX9_comesHome_33 : decode cX9_comesHome 33 = .ok (.iconst 0, 1) := by decide +kernel
theorem dX9_comesHome_34 : decode cX9_comesHome 34 = .ok (.invokevirtual 47, 3) := by decide +kernel
theorem dX9_comesHome_37 : decode cX9_comesHome 37 = .ok (.aload_n 0, 1) := by decide +kernel
theorem dX9_comesHome_38 : decode cX9_comesHome 38 = .ok (.iload_n 1, 1) := by decide +kernel
theorem dX9_comesHome_39 : decode cX9_comesHome 39 = .ok (.iconst 3, 1) := by decide +kernel
theorem dX9_comesHome_40 : decode cX9_comesHome 40 = .ok (.iload_n 2, 1) := by decide +kernel
theorem dX9_comesHome_41 : decode cX9_comesHome 41 = .ok (.ifCond .eq 7, 3) := by decide +kernel
theorem dX9_comesHome_44 : decode cX9_comesHome 44 = .ok (.iconst 5, 1) := by decide +kernel
theorem dX9_comesHome_45 : decode cX9_comesHome 45 = .ok (.goto 4, 3) := by decide +kernel
theorem dX9_comesHome_48 : decode cX9_comesHome 48 = .ok (.iconst 0, 1) := by decide +kernel
theorem dX9_comesHome_49 : decode cX9_comesHome 49 = .ok (.invokevirtual 47, 3) := by decide +kernel
theorem dX9_comesHome_52 : decode cX9_comesHome 52 = .ok (.aload_n 0, 1) := by decide +kernel
theorem dX9_comesHome_53 : decode cX9_comesHome 53 = .ok (.iload_n 1, 1) := by decide +kernel
theorem dX9_comesHome_54 : decode cX9_comesHome 54 = .ok (.bipush 8, 2) := by decide +kernel
theorem dX9_comesHome_56 : decode cX9_comesHome 56 = .ok (.aload_n 0, 1) := by decide +kernel
theorem dX9_comesHome_57 : decode cX9_comesHome 57 = .ok (.iload_n 1, 1) := by decide +kernel
theorem dX9_comesHome_58 : decode cX9_comesHome 58 = .ok (.bipush 8, 2) := by decide +kernel
theorem dX9_comesHome_60 : decode cX9_comesHome 60 = .ok (.invokevirtual 44, 3) := by decide +kernel
theorem dX9_comesHome_63 : decode cX9_comesHome 63 = .ok (.iload_n 2, 1) := by decide +kernel
theorem dX9_comesHome_64 : decode cX9_comesHome 64 = .ok (.ifCond .eq 7, 3) := by decide +kernel
theorem dX9_comesHome_67 : decode cX9_comesHome 67 = .ok (.iconst 1, 1) := by decide +kernel
theorem dX9_comesHome_68 : decode cX9_comesHome 68 = .ok (.goto 4, 3) := by decide +kernel
theorem dX9_comesHome_71 : decode cX9_comesHome 71 = .ok (.iconst 0, 1) := by decide +kernel
theorem dX9_comesHome_72 : decode cX9_comesHome 72 = .ok (.iadd, 1) := by decide +kernel
theorem dX9_comesHome_73 : decode cX9_comesHome 73 = .ok (.invokevirtual 47, 3) := by decide +kernel
theorem dX9_comesHome_76 : decode cX9_comesHome 76 = .ok (.return_, 1) := by decide +kernel
theorem dX9_comesOn_0 : decode cX9_comesOn 0 = .ok (.aload_n 0, 1) := by decide +kernel
theorem dX9_comesOn_1 : decode cX9_comesOn 1 = .ok (.iload_n 1, 1) := by decide +kernel
theorem dX9_comesOn_2 : decode cX9_comesOn 2 = .ok (.iconst 2, 1) := by decide +kernel
theorem dX9_comesOn_3 : decode cX9_comesOn 3 = .ok (.invokevirtual 44, 3) := by decide +kernel
theorem dX9_comesOn_6 : decode cX9_comesOn 6 = .ok (.istore_n 2, 1) := by decide +kernel
theorem dX9_comesOn_7 : decode cX9_comesOn 7 = .ok (.aload_n 0, 1) := by decide +kernel
theorem dX9_comesOn_8 : decode cX9_comesOn 8 = .ok (.iload_n 1, 1) := by decide +kernel
theorem dX9_comesOn_9 : decode cX9_comesOn 9 = .ok (.iconst 3, 1) := by decide +kernel
theorem dX9_comesOn_10 : decode cX9_comesOn 10 = .ok (.aload_n 0, 1) := by decide +kernel
theorem dX9_comesOn_11 : decode cX9_comesOn 11 = .ok (.iload_n 1, 1) := by decide +kernel
theorem dX9_comesOn_12 : decode cX9_comesOn 12 = .ok (.iconst 3, 1) := by decide +kernel
theorem dX9_comesOn_13 : decode cX9_comesOn 13 = .ok (.invokevirtual 44, 3) := by decide +kernel
theorem dX9_comesOn_16 : decode cX9_comesOn 16 = .ok (.iconst 1, 1) := by decide +kernel
theorem dX9_comesOn_17 : decode cX9_comesOn 17 = .ok (.isub, 1) := by decide +kernel
theorem dX9_comesOn_18 : decode cX9_comesOn 18 = .ok (.invokevirtual 47, 3) := by decide +kernel
theorem dX9_comesOn_21 : decode cX9_comesOn 21 = .ok (.aload_n 0, 1) := by decide +kernel
theorem dX9_comesOn_22 : decode cX9_comesOn 22 = .ok (.iload_n 1, 1) := by decide +kernel
theorem dX9_comesOn_23 : decode cX9_comesOn 23 = .ok (.iconst 3, 1) := by decide +kernel
theorem dX9_comesOn_24 : decode cX9_comesOn 24 = .ok (.invokevirtual 44, 3) := by decide +kernel
theorem dX9_comesOn_27 : decode cX9_comesOn 27 = .ok (.ifCond .le 4, 3) := by decide +kernel
theorem dX9_comesOn_30 : decode cX9_comesOn 30 = .ok (.return_, 1) := by decide +kernel
theorem dX9_comesOn_31 : decode cX9_comesOn 31 = .ok (.iload_n 2, 1) := by decide +kernel
theorem dX9_comesOn_32 : decode cX9_comesOn 32 = .ok (.iconst 1, 1) := by decide +kernel
theorem dX9_comesOn_33 : decode cX9_comesOn 33 = .ok (.if_icmp .ne 25, 3) := by decide +kernel
theorem dX9_comesOn_36 : decode cX9_comesOn 36 = .ok (.aload_n 0, 1) := by decide +kernel
theorem dX9_comesOn_37 : decode cX9_comesOn 37 = .ok (.iload_n 1, 1) := by decide +kernel
theorem dX9_comesOn_38 : decode cX9_comesOn 38 = .ok (.invokevirtual 58, 3) := by decide +kernel
theorem dX9_comesOn_41 : decode cX9_comesOn 41 = .ok (.aload_n 0, 1) := by decide +kernel
theorem dX9_comesOn_42 : decode cX9_comesOn 42 = .ok (.iload_n 1, 1) := by decide +kernel
theorem dX9_comesOn_43 : decode cX9_comesOn 43 = .ok (.iconst 2, 1) := by decide +kernel
theorem dX9_comesOn_44 : decode cX9_comesOn 44 = .ok (.iconst 2, 1) := by decide +kernel
theorem dX9_comesOn_45 : decode cX9_comesOn 45 = .ok (.invokevirtual 47, 3) := by decide +kernel
theorem dX9_comesOn_48 : decode cX9_comesOn 48 = .ok (.aload_n 0, 1) := by decide +kernel
theorem dX9_comesOn_49 : decode cX9_comesOn 49 = .ok (.iload_n 1, 1) := by decide +kernel
theorem dX9_comesOn_50 : decode cX9_comesOn 50 = .ok (.iconst 3, 1) := by decide +kernel
theorem dX9_comesOn_51 : decode cX9_comesOn 51 = .ok (.iconst 2, 1) := by decide +kernel
theorem dX9_comesOn_52 : decode cX9_comesOn 52 = .ok (.invokevirtual 47, 3) := by decide +kernel
theorem dX9_comesOn_55 : decode cX9_comesOn 55 = .ok (.goto 31, 3) := by decide +kernel
theorem dX9_comesOn_58 : decode cX9_comesOn 58 = .ok (.iload_n 2, 1) := by decide +kernel
theorem dX9_comesOn_59 : decode cX9_comesOn 59 = .ok (.iconst 2, 1) := by decide +kernel
theorem dX9_comesOn_60 : decode cX9_comesOn 60 = .ok (.if_icmp .ne 11, 3) := by decide +kernel
theorem dX9_comesOn_63 : decode cX9_comesOn 63 = .ok (.aload_n 0, 1) := by decide +kernel
theorem dX9_comesOn_64 : decode cX9_comesOn 64 = .ok (.iload_n 1, 1) := by decide +kernel
theorem dX9_comesOn_65 : decode cX9_comesOn 65 = .ok (.invokevirtual 62, 3) := by decide +kernel
theorem dX9_comesOn_68 : decode cX9_comesOn 68 = .ok (.goto 18, 3) := by decide +kernel
theorem dX9_comesOn_71 : decode cX9_comesOn 71 = .ok (.aload_n 0, 1) := by decide +kernel
theorem dX9_comesOn_72 : decode cX9_comesOn 72 = .ok (.iload_n 1, 1) := by decide +kernel
theorem dX9_comesOn_73 : decode cX9_comesOn 73 = .ok (.iconst 2, 1) := by decide +kernel
theorem dX9_comesOn_74 : decode cX9_comesOn 74 = .ok (.iconst 0, 1) := by decide +kernel
theorem dX9_comesOn_75 : decode cX9_comesOn 75 = .ok (.invokevirtual 47, 3) := by decide +kernel
theorem dX9_comesOn_78 : decode cX9_comesOn 78 = .ok (.aload_n 0, 1) := by decide +kernel
theorem dX9_comesOn_79 : decode cX9_comesOn 79 = .ok (.iload_n 1, 1) := by decide +kernel
theorem dX9_comesOn_80 : decode cX9_comesOn 80 = .ok (.bipush 6, 2) := by decide +kernel
theorem dX9_comesOn_82 : decode cX9_comesOn 82 = .ok (.iconst 0, 1) := by decide +kernel
theorem dX9_comesOn_83 : decode cX9_comesOn 83 = .ok (.invokevirtual 47, 3) := by decide +kernel
theorem dX9_comesOn_86 : decode cX9_comesOn 86 = .ok (.return_, 1) := by decide +kernel
theorem dX9_takes_0 : decode cX9_takes 0 = .ok (.iload_n 1, 1) := by decide +kernel
theorem dX9_takes_1 : decode cX9_takes 1 = .ok (.istore 4, 2) := by decide +kernel
theorem dX9_takes_3 : decode cX9_takes 3 = .ok (.iload_n 2, 1) := by decide +kernel
theorem dX9_takes_4 : decode cX9_takes 4 = .ok (.istore 5, 2) := by decide +kernel
theorem dX9_takes_6 : decode cX9_takes 6 = .ok (.iload 5, 2) := by decide +kernel
theorem dX9_takes_8 : decode cX9_takes 8 = .ok (.iload_n 3, 1) := by decide +kernel
theorem dX9_takes_9 : decode cX9_takes 9 = .ok (.if_icmp .lt 48, 3) := by decide +kernel
theorem dX9_takes_12 : decode cX9_takes 12 = .ok (.iload 4, 2) := by decide +kernel
theorem dX9_takes_14 : decode cX9_takes 14 = .ok (.aload_n 0, 1) := by decide +kernel
theorem dX9_takes_15 : decode cX9_takes 15 = .ok (.getfield 7, 3) := by decide +kernel
theorem dX9_takes_18 : decode cX9_takes 18 = .ok (.bipush 115, 2) := by decide +kernel
theorem dX9_takes_20 : decode cX9_takes 20 = .ok (.iload 5, 2) := by decide +kernel
theorem dX9_takes_22 : decode cX9_takes 22 = .ok (.iadd, 1) := by decide +kernel
theorem dX9_takes_23 : decode cX9_takes 23 = .ok (.iaload, 1) := by decide +kernel
theorem dX9_takes_24 : decode cX9_takes 24 = .ok (.invokestatic 55, 3) := by decide +kernel
theorem dX9_takes_27 : decode cX9_takes 27 = .ok (.istore 6, 2) := by decide +kernel
theorem dX9_takes_29 : decode cX9_takes 29 = .ok (.aload_n 0, 1) := by decide +kernel
theorem dX9_takes_30 : decode cX9_takes 30 = .ok (.getfield 7, 3) := by decide +kernel
theorem dX9_takes_33 : decode cX9_takes 33 = .ok (.bipush 115, 2) := by decide +kernel
theorem dX9_takes_35 : decode cX9_takes 35 = .ok (.iload 5, 2) := by decide +kernel
theorem dX9_takes_37 : decode cX9_takes 37 = .ok (.iadd, 1) := by decide +kernel
theorem dX9_takes_38 : decode cX9_takes 38 = .ok (.dup2, 1) := by decide +kernel
theorem dX9_takes_39 : decode cX9_takes 39 = .ok (.iaload, 1) := by decide +kernel
theorem dX9_takes_40 : decode cX9_takes 40 = .ok (.iload 6, 2) := by decide +kernel
theorem dX9_takes_42 : decode cX9_takes 42 = .ok (.isub, 1) := by decide +kernel
theorem dX9_takes_43 : decode cX9_takes 43 = .ok (.iastore, 1) := by decide +kernel
theorem dX9_takes_44 : decode cX9_takes 44 = .ok (.iload 4, 2) := by decide +kernel
theorem dX9_takes_46 : decode cX9_takes 46 = .ok (.iload 6, 2) := by decide +kernel
theorem dX9_takes_48 : decode cX9_takes 48 = .ok (.isub, 1) := by decide +kernel
theorem dX9_takes_49 : decode cX9_takes 49 = .ok (.istore 4, 2) := by decide +kernel
theorem dX9_takes_51 : decode cX9_takes 51 = .ok (.iinc 5 (-1), 3) := by decide +kernel
theorem dX9_takes_54 : decode cX9_takes 54 = .ok (.goto (-48), 3) := by decide +kernel
theorem dX9_takes_57 : decode cX9_takes 57 = .ok (.aload_n 0, 1) := by decide +kernel
theorem dX9_takes_58 : decode cX9_takes 58 = .ok (.getfield 7, 3) := by decide +kernel
theorem dX9_takes_61 : decode cX9_takes 61 = .ok (.bipush 8, 2) := by decide +kernel
theorem dX9_takes_63 : decode cX9_takes 63 = .ok (.dup2, 1) := by decide +kernel
theorem dX9_takes_64 : decode cX9_takes 64 = .ok (.iaload, 1) := by decide +kernel
theorem dX9_takes_65 : decode cX9_takes 65 = .ok (.iload_n 1, 1) := by decide +kernel
theorem dX9_takes_66 : decode cX9_takes 66 = .ok (.iadd, 1) := by decide +kernel
theorem dX9_takes_67 : decode cX9_takes 67 = .ok (.iastore, 1) := by decide +kernel
theorem dX9_takes_68 : decode cX9_takes 68 = .ok (.return_, 1) := by decide +kernel
theorem dX9_isThere_0 : decode cX9_isThere 0 = .ok (.iload_n 2, 1) := by decide +kernel
theorem dX9_isThere_1 : decode cX9_isThere 1 = .ok (.aload_n 0, 1) := by decide +kernel
theorem dX9_isThere_2 : decode cX9_isThere 2 = .ok (.iload_n 1, 1) := by decide +kernel
theorem dX9_isThere_3 : decode cX9_isThere 3 = .ok (.iconst 2, 1) := by decide +kernel
theorem dX9_isThere_4 : decode cX9_isThere 4 = .ok (.invokevirtual 36, 3) := by decide +kernel
theorem dX9_isThere_7 : decode cX9_isThere 7 = .ok (.isub, 1) := by decide +kernel
theorem dX9_isThere_8 : decode cX9_isThere 8 = .ok (.iconst 0, 1) := by decide +kernel
theorem dX9_isThere_9 : decode cX9_isThere 9 = .ok (.aload_n 0, 1) := by decide +kernel
theorem dX9_isThere_10 : decode cX9_isThere 10 = .ok (.iload_n 1, 1) := by decide +kernel
theorem dX9_isThere_11 : decode cX9_isThere 11 = .ok (.iconst 3, 1) := by decide +kernel
theorem dX9_isThere_12 : decode cX9_isThere 12 = .ok (.invokevirtual 36, 3) := by decide +kernel
theorem dX9_isThere_15 : decode cX9_isThere 15 = .ok (.iconst 1, 1) := by decide +kernel
theorem dX9_isThere_16 : decode cX9_isThere 16 = .ok (.isub, 1) := by decide +kernel
theorem dX9_isThere_17 : decode cX9_isThere 17 = .ok (.invokestatic 65, 3) := by decide +kernel
theorem dX9_isThere_20 : decode cX9_isThere 20 = .ok (.ireturn, 1) := by decide +kernel
theorem dX9_wants_0 : decode cX9_wants 0 = .ok (.iload_n 0, 1) := by decide +kernel
theorem dX9_wants_1 : decode cX9_wants 1 = .ok (.iconst 1, 1) := by decide +kernel
theorem dX9_wants_2 : decode cX9_wants 2 = .ok (.iadd, 1) := by decide +kernel
theorem dX9_wants_3 : decode cX9_wants 3 = .ok (.iconst 2, 1) := by decide +kernel
theorem dX9_wants_4 : decode cX9_wants 4 = .ok (.idiv, 1) := by decide +kernel
theorem dX9_wants_5 : decode cX9_wants 5 = .ok (.ireturn, 1) := by decide +kernel
theorem dX9_eats_0 : decode cX9_eats 0 = .ok (.aload_n 0, 1) := by decide +kernel
theorem dX9_eats_1 : decode cX9_eats 1 = .ok (.iload_n 1, 1) := by decide +kernel
theorem dX9_eats_2 : decode cX9_eats 2 = .ok (.iconst 1, 1) := by decide +kernel
theorem dX9_eats_3 : decode cX9_eats 3 = .ok (.invokevirtual 36, 3) := by decide +kernel
theorem dX9_eats_6 : decode cX9_eats 6 = .ok (.istore_n 2, 1) := by decide +kernel
theorem dX9_eats_7 : decode cX9_eats 7 = .ok (.iload_n 2, 1) := by decide +kernel
theorem dX9_eats_8 : decode cX9_eats 8 = .ok (.invokestatic 69, 3) := by decide +kernel
theorem dX9_eats_11 : decode cX9_eats 11 = .ok (.istore_n 3, 1) := by decide +kernel
theorem dX9_eats_12 : decode cX9_eats 12 = .ok (.iload_n 3, 1) := by decide +kernel
theorem dX9_eats_13 : decode cX9_eats 13 = .ok (.aload_n 0, 1) := by decide +kernel
theorem dX9_eats_14 : decode cX9_eats 14 = .ok (.iconst 0, 1) := by decide +kernel
theorem dX9_eats_15 : decode cX9_eats 15 = .ok (.aload_n 0, 1) := by decide +kernel
theorem dX9_eats_16 : decode cX9_eats 16 = .ok (.getfield 7, 3) := by decide +kernel
theorem dX9_eats_19 : decode cX9_eats 19 = .ok (.bipush 17, 2) := by decide +kernel
theorem dX9_eats_21 : decode cX9_eats 21 = .ok (.iaload, 1) := by decide +kernel
theorem dX9_eats_22 : decode cX9_eats 22 = .ok (.invokevirtual 41, 3) := by decide +kernel
theorem dX9_eats_25 : decode cX9_eats 25 = .ok (.invokestatic 55, 3) := by decide +kernel
theorem dX9_eats_28 : decode cX9_eats 28 = .ok (.istore 4, 2) := by decide +kernel
theorem dX9_eats_30 : decode cX9_eats 30 = .ok (.aload_n 0, 1) := by decide +kernel
theorem dX9_eats_31 : decode cX9_eats 31 = .ok (.iload 4, 2) := by decide +kernel
theorem dX9_eats_33 : decode cX9_eats 33 = .ok (.aload_n 0, 1) := by decide +kernel
theorem dX9_eats_34 : decode cX9_eats 34 = .ok (.getfield 7, 3) := by decide +kernel
theorem dX9_eats_37 : decode cX9_eats 37 = .ok (.bipush 17, 2) := by decide +kernel
theorem dX9_eats_39 : decode cX9_eats 39 = .ok (.iaload, 1) := by decide +kernel
theorem dX9_eats_40 : decode cX9_eats 40 = .ok (.iconst 0, 1) := by decide +kernel
theorem dX9_eats_41 : decode cX9_eats 41 = .ok (.invokevirtual 73, 3) := by decide +kernel
theorem dX9_eats_44 : decode cX9_eats 44 = .ok (.iload_n 3, 1) := by decide +kernel
theorem dX9_eats_45 : decode cX9_eats 45 = .ok (.iload 4, 2) := by decide +kernel
theorem dX9_eats_47 : decode cX9_eats 47 = .ok (.isub, 1) := by decide +kernel
theorem dX9_eats_48 : decode cX9_eats 48 = .ok (.aload_n 0, 1) := by decide +kernel
theorem dX9_eats_49 : decode cX9_eats 49 = .ok (.invokevirtual 76, 3) := by decide +kernel
theorem dX9_eats_52 : decode cX9_eats 52 = .ok (.iconst 2, 1) := by decide +kernel
theorem dX9_eats_53 : decode cX9_eats 53 = .ok (.idiv, 1) := by decide +kernel
theorem dX9_eats_54 : decode cX9_eats 54 = .ok (.invokestatic 55, 3) := by decide +kernel
theorem dX9_eats_57 : decode cX9_eats 57 = .ok (.istore 5, 2) := by decide +kernel
theorem dX9_eats_59 : decode cX9_eats 59 = .ok (.aload_n 0, 1) := by decide +kernel
theorem dX9_eats_60 : decode cX9_eats 60 = .ok (.iconst 2, 1) := by decide +kernel
theorem dX9_eats_61 : decode cX9_eats 61 = .ok (.iload 5, 2) := by decide +kernel
theorem dX9_eats_63 : decode cX9_eats 63 = .ok (.imul, 1) := by decide +kernel
theorem dX9_eats_64 : decode cX9_eats 64 = .ok (.bipush 20, 2) := by decide +kernel
theorem dX9_eats_66 : decode cX9_eats 66 = .ok (.aload_n 0, 1) := by decide +kernel
theorem dX9_eats_67 : decode cX9_eats 67 = .ok (.getfield 7, 3) := by decide +kernel
theorem dX9_eats_70 : decode cX9_eats 70 = .ok (.bipush 17, 2) := by decide +kernel
theorem dX9_eats_72 : decode cX9_eats 72 = .ok (.iaload, 1) := by decide +kernel
theorem dX9_eats_73 : decode cX9_eats 73 = .ok (.iconst 1, 1) := by decide +kernel
theorem dX9_eats_74 : decode cX9_eats 74 = .ok (.iadd, 1) := by decide +kernel
theorem dX9_eats_75 : decode cX9_eats 75 = .ok (.invokevirtual 73, 3) := by decide +kernel
theorem dX9_eats_78 : decode cX9_eats 78 = .ok (.iload 4, 2) := by decide +kernel
theorem dX9_eats_80 : decode cX9_eats 80 = .ok (.iload 5, 2) := by decide +kernel
theorem dX9_eats_82 : decode cX9_eats 82 = .ok (.iadd, 1) := by decide +kernel
theorem dX9_eats_83 : decode cX9_eats 83 = .ok (.iload_n 3, 1) := by decide +kernel
theorem dX9_eats_84 : decode cX9_eats 84 = .ok (.if_icmp .ge 7, 3) := by decide +kernel
theorem dX9_eats_87 : decode cX9_eats 87 = .ok (.iconst 1, 1) := by decide +kernel
theorem dX9_eats_88 : decode cX9_eats 88 = .ok (.goto 4, 3) := by decide +kernel
theorem dX9_eats_91 : decode cX9_eats 91 = .ok (.iconst 0, 1) := by decide +kernel
theorem dX9_eats_92 : decode cX9_eats 92 = .ok (.istore 6, 2) := by decide +kernel
theorem dX9_eats_94 : decode cX9_eats 94 = .ok (.iload_n 2, 1) := by decide +kernel
theorem dX9_eats_95 : decode cX9_eats 95 = .ok (.iload 6, 2) := by decide +kernel
theorem dX9_eats_97 : decode cX9_eats 97 = .ok (.ifCond .eq 7, 3) := by decide +kernel
theorem dX9_eats_100 : decode cX9_eats 100 = .ok (.iconst 1, 1) := by decide +kernel
theorem dX9_eats_101 : decode cX9_eats 101 = .ok (.goto 13, 3) := by decide +kernel
theorem dX9_eats_104 : decode cX9_eats 104 = .ok (.iload 5, 2) := by decide +kernel
theorem dX9_eats_106 : decode cX9_eats 106 = .ok (.ifCond .le 7, 3) := by decide +kernel
theorem dX9_eats_109 : decode cX9_eats 109 = .ok (.iconst 2, 1) := by decide +kernel
theorem dX9_eats_110 : decode cX9_eats 110 = .ok (.goto 4, 3) := by decide +kernel
theorem dX9_eats_113 : decode cX9_eats 113 = .ok (.iconst 3, 1) := by decide +kernel
theorem dX9_eats_114 : decode cX9_eats 114 = .ok (.imul, 1) := by decide +kernel
theorem dX9_eats_115 : decode cX9_eats 115 = .ok (.istore 7, 2) := by decide +kernel
theorem dX9_eats_117 : decode cX9_eats 117 = .ok (.aload_n 0, 1) := by decide +kernel
theorem dX9_eats_118 : decode cX9_eats 118 = .ok (.getfield 7, 3) := by decide +kernel
theorem dX9_eats_121 : decode cX9_eats 121 = .ok (.bipush 55, 2) := by decide +kernel
theorem dX9_eats_123 : decode cX9_eats 123 = .ok (.bipush 6, 2) := by decide +kernel
theorem dX9_eats_125 : decode cX9_eats 125 = .ok (.iload_n 1, 1) := by decide +kernel
theorem dX9_eats_126 : decode cX9_eats 126 = .ok (.imul, 1) := by decide +kernel
theorem dX9_eats_127 : decode cX9_eats 127 = .ok (.iadd, 1) := by decide +kernel
theorem dX9_eats_128 : decode cX9_eats 128 = .ok (.iconst 4, 1) := by decide +kernel
theorem dX9_eats_129 : decode cX9_eats 129 = .ok (.iadd, 1) := by decide +kernel
theorem dX9_eats_130 : decode cX9_eats 130 = .ok (.dup2, 1) := by decide +kernel
theorem dX9_eats_131 : decode cX9_eats 131 = .ok (.iaload, 1) := by decide +kernel
theorem dX9_eats_132 : decode cX9_eats 132 = .ok (.iload 7, 2) := by decide +kernel
theorem dX9_eats_134 : decode cX9_eats 134 = .ok (.iadd, 1) := by decide +kernel
theorem dX9_eats_135 : decode cX9_eats 135 = .ok (.iastore, 1) := by decide +kernel
theorem dX9_eats_136 : decode cX9_eats 136 = .ok (.aload_n 0, 1) := by decide +kernel
theorem dX9_eats_137 : decode cX9_eats 137 = .ok (.getfield 7, 3) := by decide +kernel
theorem dX9_eats_140 : decode cX9_eats 140 = .ok (.bipush 55, 2) := by decide +kernel
theorem dX9_eats_142 : decode cX9_eats 142 = .ok (.bipush 6, 2) := by decide +kernel
theorem dX9_eats_144 : decode cX9_eats 144 = .ok (.iload_n 1, 1) := by decide +kernel
theorem dX9_eats_145 : decode cX9_eats 145 = .ok (.imul, 1) := by decide +kernel
theorem dX9_eats_146 : decode cX9_eats 146 = .ok (.iadd, 1) := by decide +kernel
theorem dX9_eats_147 : decode cX9_eats 147 = .ok (.iconst 5, 1) := by decide +kernel
theorem dX9_eats_148 : decode cX9_eats 148 = .ok (.iadd, 1) := by decide +kernel
theorem dX9_eats_149 : decode cX9_eats 149 = .ok (.dup2, 1) := by decide +kernel
theorem dX9_eats_150 : decode cX9_eats 150 = .ok (.iaload, 1) := by decide +kernel
theorem dX9_eats_151 : decode cX9_eats 151 = .ok (.iload 6, 2) := by decide +kernel
theorem dX9_eats_153 : decode cX9_eats 153 = .ok (.ifCond .eq 7, 3) := by decide +kernel
theorem dX9_eats_156 : decode cX9_eats 156 = .ok (.iconst 1, 1) := by decide +kernel
theorem dX9_eats_157 : decode cX9_eats 157 = .ok (.goto 4, 3) := by decide +kernel
theorem dX9_eats_160 : decode cX9_eats 160 = .ok (.iconst 0, 1) := by decide +kernel
theorem dX9_eats_161 : decode cX9_eats 161 = .ok (.iadd, 1) := by decide +kernel
theorem dX9_eats_162 : decode cX9_eats 162 = .ok (.iastore, 1) := by decide +kernel
theorem dX9_eats_163 : decode cX9_eats 163 = .ok (.aload_n 0, 1) := by decide +kernel
theorem dX9_eats_164 : decode cX9_eats 164 = .ok (.getfield 7, 3) := by decide +kernel
theorem dX9_eats_167 : decode cX9_eats 167 = .ok (.bipush 12, 2) := by decide +kernel
theorem dX9_eats_169 : decode cX9_eats 169 = .ok (.dup2, 1) := by decide +kernel
theorem dX9_eats_170 : decode cX9_eats 170 = .ok (.iaload, 1) := by decide +kernel
theorem dX9_eats_171 : decode cX9_eats 171 = .ok (.iload 6, 2) := by decide +kernel
theorem dX9_eats_173 : decode cX9_eats 173 = .ok (.ifCond .eq 7, 3) := by decide +kernel
theorem dX9_eats_176 : decode cX9_eats 176 = .ok (.iconst 1, 1) := by decide +kernel
theorem dX9_eats_177 : decode cX9_eats 177 = .ok (.goto 4, 3) := by decide +kernel
theorem dX9_eats_180 : decode cX9_eats 180 = .ok (.iconst 0, 1) := by decide +kernel
theorem dX9_eats_181 : decode cX9_eats 181 = .ok (.iadd, 1) := by decide +kernel
theorem dX9_eats_182 : decode cX9_eats 182 = .ok (.iastore, 1) := by decide +kernel
theorem dX9_eats_183 : decode cX9_eats 183 = .ok (.aload_n 0, 1) := by decide +kernel
theorem dX9_eats_184 : decode cX9_eats 184 = .ok (.getfield 7, 3) := by decide +kernel
theorem dX9_eats_187 : decode cX9_eats 187 = .ok (.iconst 5, 1) := by decide +kernel
theorem dX9_eats_188 : decode cX9_eats 188 = .ok (.dup2, 1) := by decide +kernel
theorem dX9_eats_189 : decode cX9_eats 189 = .ok (.iaload, 1) := by decide +kernel
theorem dX9_eats_190 : decode cX9_eats 190 = .ok (.iload 7, 2) := by decide +kernel
theorem dX9_eats_192 : decode cX9_eats 192 = .ok (.iadd, 1) := by decide +kernel
theorem dX9_eats_193 : decode cX9_eats 193 = .ok (.iastore, 1) := by decide +kernel
theorem dX9_eats_194 : decode cX9_eats 194 = .ok (.aload_n 0, 1) := by decide +kernel
theorem dX9_eats_195 : decode cX9_eats 195 = .ok (.getfield 7, 3) := by decide +kernel
theorem dX9_eats_198 : decode cX9_eats 198 = .ok (.bipush 13, 2) := by decide +kernel
theorem dX9_eats_200 : decode cX9_eats 200 = .ok (.dup2, 1) := by decide +kernel
theorem dX9_eats_201 : decode cX9_eats 201 = .ok (.iaload, 1) := by decide +kernel
theorem dX9_eats_202 : decode cX9_eats 202 = .ok (.iload 7, 2) := by decide +kernel
theorem dX9_eats_204 : decode cX9_eats 204 = .ok (.iadd, 1) := by decide +kernel
theorem dX9_eats_205 : decode cX9_eats 205 = .ok (.iastore, 1) := by decide +kernel
theorem dX9_eats_206 : decode cX9_eats 206 = .ok (.return_, 1) := by decide +kernel
theorem dX9_goes_0 : decode cX9_goes 0 = .ok (.aload_n 0, 1) := by decide +kernel
theorem dX9_goes_1 : decode cX9_goes 1 = .ok (.getfield 7, 3) := by decide +kernel
theorem dX9_goes_4 : decode cX9_goes 4 = .ok (.iconst 1, 1) := by decide +kernel
theorem dX9_goes_5 : decode cX9_goes 5 = .ok (.dup2, 1) := by decide +kernel
theorem dX9_goes_6 : decode cX9_goes 6 = .ok (.iaload, 1) := by decide +kernel
theorem dX9_goes_7 : decode cX9_goes 7 = .ok (.iconst 1, 1) := by decide +kernel
theorem dX9_goes_8 : decode cX9_goes 8 = .ok (.isub, 1) := by decide +kernel
theorem dX9_goes_9 : decode cX9_goes 9 = .ok (.iastore, 1) := by decide +kernel
theorem dX9_goes_10 : decode cX9_goes 10 = .ok (.bipush 55, 2) := by decide +kernel
theorem dX9_goes_12 : decode cX9_goes 12 = .ok (.bipush 6, 2) := by decide +kernel
theorem dX9_goes_14 : decode cX9_goes 14 = .ok (.iload_n 1, 1) := by decide +kernel
theorem dX9_goes_15 : decode cX9_goes 15 = .ok (.imul, 1) := by decide +kernel
theorem dX9_goes_16 : decode cX9_goes 16 = .ok (.iadd, 1) := by decide +kernel
theorem dX9_goes_17 : decode cX9_goes 17 = .ok (.istore_n 2, 1) := by decide +kernel
theorem dX9_goes_18 : decode cX9_goes 18 = .ok (.iload_n 2, 1) := by decide +kernel
theorem dX9_goes_19 : decode cX9_goes 19 = .ok (.bipush 55, 2) := by decide +kernel
theorem dX9_goes_21 : decode cX9_goes 21 = .ok (.bipush 6, 2) := by decide +kernel
theorem dX9_goes_23 : decode cX9_goes 23 = .ok (.aload_n 0, 1) := by decide +kernel
theorem dX9_goes_24 : decode cX9_goes 24 = .ok (.getfield 7, 3) := by decide +kernel
theorem dX9_goes_27 : decode cX9_goes 27 = .ok (.iconst 1, 1) := by decide +kernel
theorem dX9_goes_28 : decode cX9_goes 28 = .ok (.iaload, 1) := by decide +kernel
theorem dX9_goes_29 : decode cX9_goes 29 = .ok (.imul, 1) := by decide +kernel
theorem dX9_goes_30 : decode cX9_goes 30 = .ok (.iadd, 1) := by decide +kernel
theorem dX9_goes_31 : decode cX9_goes 31 = .ok (.if_icmp .ge 24, 3) := by decide +kernel
theorem dX9_goes_34 : decode cX9_goes 34 = .ok (.aload_n 0, 1) := by decide +kernel
theorem dX9_goes_35 : decode cX9_goes 35 = .ok (.getfield 7, 3) := by decide +kernel
theorem dX9_goes_38 : decode cX9_goes 38 = .ok (.iload_n 2, 1) := by decide +kernel
theorem dX9_goes_39 : decode cX9_goes 39 = .ok (.aload_n 0, 1) := by decide +kernel
theorem dX9_goes_40 : decode cX9_goes 40 = .ok (.getfield 7, 3) := by decide +kernel
theorem dX9_goes_43 : decode cX9_goes 43 = .ok (.iload_n 2, 1) := by decide +kernel
theorem dX9_goes_44 : decode cX9_goes 44 = .ok (.bipush 6, 2) := by decide +kernel
theorem dX9_goes_46 : decode cX9_goes 46 = .ok (.iadd, 1) := by decide +kernel
theorem dX9_goes_47 : decode cX9_goes 47 = .ok (.iaload, 1) := by decide +kernel
theorem dX9_goes_48 : decode cX9_goes 48 = .ok (.iastore, 1) := by decide +kernel
theorem dX9_goes_49 : decode cX9_goes 49 = .ok (.iinc 2 1, 3) := by decide +kernel
theorem dX9_goes_52 : decode cX9_goes 52 = .ok (.goto (-34), 3) := by decide +kernel
theorem dX9_goes_55 : decode cX9_goes 55 = .ok (.return_, 1) := by decide +kernel
theorem dX9_ends_0 : decode cX9_ends 0 = .ok (.aload_n 0, 1) := by decide +kernel
theorem dX9_ends_1 : decode cX9_ends 1 = .ok (.getfield 7, 3) := by decide +kernel
theorem dX9_ends_4 : decode cX9_ends 4 = .ok (.iconst 4, 1) := by decide +kernel
theorem dX9_ends_5 : decode cX9_ends 5 = .ok (.aload_n 0, 1) := by decide +kernel
theorem dX9_ends_6 : decode cX9_ends 6 = .ok (.getfield 7, 3) := by decide +kernel
theorem dX9_ends_9 : decode cX9_ends 9 = .ok (.iconst 4, 1) := by decide +kernel
theorem dX9_ends_10 : decode cX9_ends 10 = .ok (.iaload, 1) := by decide +kernel
theorem dX9_ends_11 : decode cX9_ends 11 = .ok (.sipush 421, 3) := by decide +kernel
theorem dX9_ends_14 : decode cX9_ends 14 = .ok (.imul, 1) := by decide +kernel
theorem dX9_ends_15 : decode cX9_ends 15 = .ok (.sipush 1663, 3) := by decide +kernel
theorem dX9_ends_18 : decode cX9_ends 18 = .ok (.iadd, 1) := by decide +kernel
theorem dX9_ends_19 : decode cX9_ends 19 = .ok (.sipush 10000, 3) := by decide +kernel
theorem dX9_ends_22 : decode cX9_ends 22 = .ok (.irem, 1) := by decide +kernel
theorem dX9_ends_23 : decode cX9_ends 23 = .ok (.iastore, 1) := by decide +kernel
theorem dX9_ends_24 : decode cX9_ends 24 = .ok (.aload_n 0, 1) := by decide +kernel
theorem dX9_ends_25 : decode cX9_ends 25 = .ok (.getfield 7, 3) := by decide +kernel
theorem dX9_ends_28 : decode cX9_ends 28 = .ok (.iconst 4, 1) := by decide +kernel
theorem dX9_ends_29 : decode cX9_ends 29 = .ok (.iaload, 1) := by decide +kernel
theorem dX9_ends_30 : decode cX9_ends 30 = .ok (.bipush 100, 2) := by decide +kernel
theorem dX9_ends_32 : decode cX9_ends 32 = .ok (.irem, 1) := by decide +kernel
theorem dX9_ends_33 : decode cX9_ends 33 = .ok (.aload_n 0, 1) := by decide +kernel
theorem dX9_ends_34 : decode cX9_ends 34 = .ok (.getfield 7, 3) := by decide +kernel
theorem dX9_ends_37 : decode cX9_ends 37 = .ok (.bipush 18, 2) := by decide +kernel
theorem dX9_ends_39 : decode cX9_ends 39 = .ok (.iaload, 1) := by decide +kernel
theorem dX9_ends_40 : decode cX9_ends 40 = .ok (.if_icmp .ge 7, 3) := by decide +kernel
theorem dX9_ends_43 : decode cX9_ends 43 = .ok (.iconst 1, 1) := by decide +kernel
theorem dX9_ends_44 : decode cX9_ends 44 = .ok (.goto 4, 3) := by decide +kernel
theorem dX9_ends_47 : decode cX9_ends 47 = .ok (.iconst 0, 1) := by decide +kernel
theorem dX9_ends_48 : decode cX9_ends 48 = .ok (.istore_n 1, 1) := by decide +kernel
theorem dX9_ends_49 : decode cX9_ends 49 = .ok (.aload_n 0, 1) := by decide +kernel
theorem dX9_ends_50 : decode cX9_ends 50 = .ok (.getfield 7, 3) := by decide +kernel
theorem dX9_ends_53 : decode cX9_ends 53 = .ok (.bipush 11, 2) := by decide +kernel
theorem dX9_ends_55 : decode cX9_ends 55 = .ok (.dup2, 1) := by decide +kernel
theorem dX9_ends_56 : decode cX9_ends 56 = .ok (.iaload, 1) := by decide +kernel
theorem dX9_ends_57 : decode cX9_ends 57 = .ok (.iload_n 1, 1) := by decide +kernel
theorem dX9_ends_58 : decode cX9_ends 58 = .ok (.ifCond .eq 7, 3) := by decide +kernel
theorem dX9_ends_61 : decode cX9_ends 61 = .ok (.iconst 1, 1) := by decide +kernel
theorem dX9_ends_62 : decode cX9_ends 62 = .ok (.goto 4, 3) := by decide +kernel
theorem dX9_ends_65 : decode cX9_ends 65 = .ok (.iconst 0, 1) := by decide +kernel
theorem dX9_ends_66 : decode cX9_ends 66 = .ok (.iadd, 1) := by decide +kernel
theorem dX9_ends_67 : decode cX9_ends 67 = .ok (.iastore, 1) := by decide +kernel
theorem dX9_ends_68 : decode cX9_ends 68 = .ok (.iconst 0, 1) := by decide +kernel
theorem dX9_ends_69 : decode cX9_ends 69 = .ok (.istore_n 2, 1) := by decide +kernel
theorem dX9_ends_70 : decode cX9_ends 70 = .ok (.iload_n 2, 1) := by decide +kernel
theorem dX9_ends_71 : decode cX9_ends 71 = .ok (.aload_n 0, 1) := by decide +kernel
theorem dX9_ends_72 : decode cX9_ends 72 = .ok (.getfield 7, 3) := by decide +kernel
theorem dX9_ends_75 : decode cX9_ends 75 = .ok (.iconst 0, 1) := by decide +kernel
theorem dX9_ends_76 : decode cX9_ends 76 = .ok (.iaload, 1) := by decide +kernel
theorem dX9_ends_77 : decode cX9_ends 77 = .ok (.if_icmp .ge 34, 3) := by decide +kernel
theorem dX9_ends_80 : decode cX9_ends 80 = .ok (.aload_n 0, 1) := by decide +kernel
theorem dX9_ends_81 : decode cX9_ends 81 = .ok (.iload_n 2, 1) := by decide +kernel
theorem dX9_ends_82 : decode cX9_ends 82 = .ok (.iconst 2, 1) := by decide +kernel
theorem dX9_ends_83 : decode cX9_ends 83 = .ok (.invokevirtual 44, 3) := by decide +kernel
theorem dX9_ends_86 : decode cX9_ends 86 = .ok (.istore_n 3, 1) := by decide +kernel
theorem dX9_ends_87 : decode cX9_ends 87 = .ok (.iload_n 3, 1) := by decide +kernel
theorem dX9_ends_88 : decode cX9_ends 88 = .ok (.iconst 3, 1) := by decide +kernel
theorem dX9_ends_89 : decode cX9_ends 89 = .ok (.if_icmp .eq 11, 3) := by decide +kernel
theorem dX9_ends_92 : decode cX9_ends 92 = .ok (.iload_n 3, 1) := by decide +kernel
theorem dX9_ends_93 : decode cX9_ends 93 = .ok (.ifCond .eq 12, 3) := by decide +kernel
theorem dX9_ends_96 : decode cX9_ends 96 = .ok (.iload_n 1, 1) := by decide +kernel
theorem dX9_ends_97 : decode cX9_ends 97 = .ok (.ifCond .ne 8, 3) := by decide +kernel
theorem dX9_ends_100 : decode cX9_ends 100 = .ok (.aload_n 0, 1) := by decide +kernel
theorem dX9_ends_101 : decode cX9_ends 101 = .ok (.iload_n 2, 1) := by decide +kernel
theorem dX9_ends_102 : decode cX9_ends 102 = .ok (.invokevirtual 79, 3) := by decide +kernel
theorem dX9_ends_105 : decode cX9_ends 105 = .ok (.iinc 2 1, 3) := by decide +kernel
theorem dX9_ends_108 : decode cX9_ends 108 = .ok (.goto (-38), 3) := by decide +kernel
theorem dX9_ends_111 : decode cX9_ends 111 = .ok (.iconst 0, 1) := by decide +kernel
theorem dX9_ends_112 : decode cX9_ends 112 = .ok (.istore_n 2, 1) := by decide +kernel
theorem dX9_ends_113 : decode cX9_ends 113 = .ok (.iload_n 2, 1) := by decide +kernel
theorem dX9_ends_114 : decode cX9_ends 114 = .ok (.aload_n 0, 1) := by decide +kernel
theorem dX9_ends_115 : decode cX9_ends 115 = .ok (.getfield 7, 3) := by decide +kernel
theorem dX9_ends_118 : decode cX9_ends 118 = .ok (.iconst 1, 1) := by decide +kernel
theorem dX9_ends_119 : decode cX9_ends 119 = .ok (.iaload, 1) := by decide +kernel
theorem dX9_ends_120 : decode cX9_ends 120 = .ok (.if_icmp .ge 28, 3) := by decide +kernel
theorem dX9_ends_123 : decode cX9_ends 123 = .ok (.aload_n 0, 1) := by decide +kernel
theorem dX9_ends_124 : decode cX9_ends 124 = .ok (.iload_n 2, 1) := by decide +kernel
theorem dX9_ends_125 : decode cX9_ends 125 = .ok (.aload_n 0, 1) := by decide +kernel
theorem dX9_ends_126 : decode cX9_ends 126 = .ok (.getfield 7, 3) := by decide +kernel
theorem dX9_ends_129 : decode cX9_ends 129 = .ok (.iconst 3, 1) := by decide +kernel
theorem dX9_ends_130 : decode cX9_ends 130 = .ok (.iaload, 1) := by decide +kernel
theorem dX9_ends_131 : decode cX9_ends 131 = .ok (.invokevirtual 82, 3) := by decide +kernel
theorem dX9_ends_134 : decode cX9_ends 134 = .ok (.ifCond .eq 8, 3) := by decide +kernel
theorem dX9_ends_137 : decode cX9_ends 137 = .ok (.aload_n 0, 1) := by decide +kernel
theorem dX9_ends_138 : decode cX9_ends 138 = .ok (.iload_n 2, 1) := by decide +kernel
theorem dX9_ends_139 : decode cX9_ends 139 = .ok (.invokevirtual 86, 3) := by decide +kernel
theorem dX9_ends_142 : decode cX9_ends 142 = .ok (.iinc 2 1, 3) := by decide +kernel
theorem dX9_ends_145 : decode cX9_ends 145 = .ok (.goto (-32), 3) := by decide +kernel
theorem dX9_ends_148 : decode cX9_ends 148 = .ok (.aload_n 0, 1) := by decide +kernel
theorem dX9_ends_149 : decode cX9_ends 149 = .ok (.getfield 7, 3) := by decide +kernel
theorem dX9_ends_152 : decode cX9_ends 152 = .ok (.bipush 9, 2) := by decide +kernel
theorem dX9_ends_154 : decode cX9_ends 154 = .ok (.dup2, 1) := by decide +kernel
theorem dX9_ends_155 : decode cX9_ends 155 = .ok (.iaload, 1) := by decide +kernel
theorem dX9_ends_156 : decode cX9_ends 156 = .ok (.aload_n 0, 1) := by decide +kernel
theorem dX9_ends_157 : decode cX9_ends 157 = .ok (.getfield 7, 3) := by decide +kernel
theorem dX9_ends_160 : decode cX9_ends 160 = .ok (.sipush 135, 3) := by decide +kernel
theorem dX9_ends_163 : decode cX9_ends 163 = .ok (.iaload, 1) := by decide +kernel
theorem dX9_ends_164 : decode cX9_ends 164 = .ok (.iadd, 1) := by decide +kernel
theorem dX9_ends_165 : decode cX9_ends 165 = .ok (.iastore, 1) := by decide +kernel
theorem dX9_ends_166 : decode cX9_ends 166 = .ok (.bipush 20, 2) := by decide +kernel
theorem dX9_ends_168 : decode cX9_ends 168 = .ok (.istore_n 2, 1) := by decide +kernel
theorem dX9_ends_169 : decode cX9_ends 169 = .ok (.iload_n 2, 1) := by decide +kernel
theorem dX9_ends_170 : decode cX9_ends 170 = .ok (.ifCond .le 29, 3) := by decide +kernel
theorem dX9_ends_173 : decode cX9_ends 173 = .ok (.aload_n 0, 1) := by decide +kernel
theorem dX9_ends_174 : decode cX9_ends 174 = .ok (.getfield 7, 3) := by decide +kernel
theorem dX9_ends_177 : decode cX9_ends 177 = .ok (.bipush 115, 2) := by decide +kernel
theorem dX9_ends_179 : decode cX9_ends 179 = .ok (.iload_n 2, 1) := by decide +kernel
theorem dX9_ends_180 : decode cX9_ends 180 = .ok (.iadd, 1) := by decide +kernel
theorem dX9_ends_181 : decode cX9_ends 181 = .ok (.aload_n 0, 1) := by decide +kernel
theorem dX9_ends_182 : decode cX9_ends 182 = .ok (.getfield 7, 3) := by decide +kernel
theorem dX9_ends_185 : decode cX9_ends 185 = .ok (.bipush 115, 2) := by decide +kernel
theorem dX9_ends_187 : decode cX9_ends 187 = .ok (.iload_n 2, 1) := by decide +kernel
theorem dX9_ends_188 : decode cX9_ends 188 = .ok (.iadd, 1) := by decide +kernel
theorem dX9_ends_189 : decode cX9_ends 189 = .ok (.iconst 1, 1) := by decide +kernel
theorem dX9_ends_190 : decode cX9_ends 190 = .ok (.isub, 1) := by decide +kernel
theorem dX9_ends_191 : decode cX9_ends 191 = .ok (.iaload, 1) := by decide +kernel
theorem dX9_ends_192 : decode cX9_ends 192 = .ok (.iastore, 1) := by decide +kernel
theorem dX9_ends_193 : decode cX9_ends 193 = .ok (.iinc 2 (-1), 3) := by decide +kernel
theorem dX9_ends_196 : decode cX9_ends 196 = .ok (.goto (-27), 3) := by decide +kernel
theorem dX9_ends_199 : decode cX9_ends 199 = .ok (.aload_n 0, 1) := by decide +kernel
theorem dX9_ends_200 : decode cX9_ends 200 = .ok (.getfield 7, 3) := by decide +kernel
theorem dX9_ends_203 : decode cX9_ends 203 = .ok (.bipush 115, 2) := by decide +kernel
theorem dX9_ends_205 : decode cX9_ends 205 = .ok (.iconst 0, 1) := by decide +kernel
theorem dX9_ends_206 : decode cX9_ends 206 = .ok (.iastore, 1) := by decide +kernel
theorem dX9_ends_207 : decode cX9_ends 207 = .ok (.aload_n 0, 1) := by decide +kernel
theorem dX9_ends_208 : decode cX9_ends 208 = .ok (.getfield 7, 3) := by decide +kernel
theorem dX9_ends_211 : decode cX9_ends 211 = .ok (.iconst 1, 1) := by decide +kernel
theorem dX9_ends_212 : decode cX9_ends 212 = .ok (.iaload, 1) := by decide +kernel
theorem dX9_ends_213 : decode cX9_ends 213 = .ok (.iconst 1, 1) := by decide +kernel
theorem dX9_ends_214 : decode cX9_ends 214 = .ok (.isub, 1) := by decide +kernel
theorem dX9_ends_215 : decode cX9_ends 215 = .ok (.istore_n 2, 1) := by decide +kernel
theorem dX9_ends_216 : decode cX9_ends 216 = .ok (.iload_n 2, 1) := by decide +kernel
theorem dX9_ends_217 : decode cX9_ends 217 = .ok (.ifCond .lt 38, 3) := by decide +kernel
theorem dX9_ends_220 : decode cX9_ends 220 = .ok (.aload_n 0, 1) := by decide +kernel
theorem dX9_ends_221 : decode cX9_ends 221 = .ok (.iload_n 2, 1) := by decide +kernel
theorem dX9_ends_222 : decode cX9_ends 222 = .ok (.iconst 2, 1) := by decide +kernel
theorem dX9_ends_223 : decode cX9_ends 223 = .ok (.invokevirtual 36, 3) := by decide +kernel
theorem dX9_ends_226 : decode cX9_ends 226 = .ok (.aload_n 0, 1) := by decide +kernel
theorem dX9_ends_227 : decode cX9_ends 227 = .ok (.iload_n 2, 1) := by decide +kernel
theorem dX9_ends_228 : decode cX9_ends 228 = .ok (.iconst 3, 1) := by decide +kernel
theorem dX9_ends_229 : decode cX9_ends 229 = .ok (.invokevirtual 36, 3) := by decide +kernel
theorem dX9_ends_232 : decode cX9_ends 232 = .ok (.iadd, 1) := by decide +kernel
theorem dX9_ends_233 : decode cX9_ends 233 = .ok (.iconst 1, 1) := by decide +kernel
theorem dX9_ends_234 : decode cX9_ends 234 = .ok (.isub, 1) := by decide +kernel
theorem dX9_ends_235 : decode cX9_ends 235 = .ok (.aload_n 0, 1) := by decide +kernel
theorem dX9_ends_236 : decode cX9_ends 236 = .ok (.getfield 7, 3) := by decide +kernel
theorem dX9_ends_239 : decode cX9_ends 239 = .ok (.iconst 3, 1) := by decide +kernel
theorem dX9_ends_240 : decode cX9_ends 240 = .ok (.iaload, 1) := by decide +kernel
theorem dX9_ends_241 : decode cX9_ends 241 = .ok (.if_icmp .ne 8, 3) := by decide +kernel
theorem dX9_ends_244 : decode cX9_ends 244 = .ok (.aload_n 0, 1) := by decide +kernel
theorem dX9_ends_245 : decode cX9_ends 245 = .ok (.iload_n 2, 1) := by decide +kernel
theorem dX9_ends_246 : decode cX9_ends 246 = .ok (.invokevirtual 89, 3) := by decide +kernel
theorem dX9_ends_249 : decode cX9_ends 249 = .ok (.iinc 2 (-1), 3) := by decide +kernel
theorem dX9_ends_252 : decode cX9_ends 252 = .ok (.goto (-36), 3) := by decide +kernel
theorem dX9_ends_255 : decode cX9_ends 255 = .ok (.aload_n 0, 1) := by decide +kernel
theorem dX9_ends_256 : decode cX9_ends 256 = .ok (.getfield 7, 3) := by decide +kernel
theorem dX9_ends_259 : decode cX9_ends 259 = .ok (.iconst 3, 1) := by decide +kernel
theorem dX9_ends_260 : decode cX9_ends 260 = .ok (.dup2, 1) := by decide +kernel
theorem dX9_ends_261 : decode cX9_ends 261 = .ok (.iaload, 1) := by decide +kernel
theorem dX9_ends_262 : decode cX9_ends 262 = .ok (.iconst 1, 1) := by decide +kernel
theorem dX9_ends_263 : decode cX9_ends 263 = .ok (.iadd, 1) := by decide +kernel
theorem dX9_ends_264 : decode cX9_ends 264 = .ok (.iastore, 1) := by decide +kernel
theorem dX9_ends_265 : decode cX9_ends 265 = .ok (.return_, 1) := by decide +kernel
theorem dX9_endsFor_0 : decode cX9_endsFor 0 = .ok (.aload_n 0, 1) := by decide +kernel
theorem dX9_endsFor_1 : decode cX9_endsFor 1 = .ok (.getfield 7, 3) := by decide +kernel
theorem dX9_endsFor_4 : decode cX9_endsFor 4 = .ok (.bipush 8, 2) := by decide +kernel
theorem dX9_endsFor_6 : decode cX9_endsFor 6 = .ok (.iaload, 1) := by decide +kernel
theorem dX9_endsFor_7 : decode cX9_endsFor 7 = .ok (.istore_n 2, 1) := by decide +kernel
theorem dX9_endsFor_8 : decode cX9_endsFor 8 = .ok (.iconst 0, 1) := by decide +kernel
theorem dX9_endsFor_9 : decode cX9_endsFor 9 = .ok (.istore_n 3, 1) := by decide +kernel
theorem dX9_endsFor_10 : decode cX9_endsFor 10 = .ok (.iload_n 3, 1) := by decide +kernel
theorem dX9_endsFor_11 : decode cX9_endsFor 11 = .ok (.iload_n 1, 1) := by decide +kernel
theorem dX9_endsFor_12 : decode cX9_endsFor 12 = .ok (.if_icmp .ge 13, 3) := by decide +kernel
theorem dX9_endsFor_15 : decode cX9_endsFor 15 = .ok (.aload_n 0, 1) := by decide +kernel
theorem dX9_endsFor_16 : decode cX9_endsFor 16 = .ok (.invokevirtual 92, 3) := by decide +kernel
theorem dX9_endsFor_19 : decode cX9_endsFor 19 = .ok (.iinc 3 1, 3) := by decide +kernel
theorem dX9_endsFor_22 : decode cX9_endsFor 22 = .ok (.goto (-12), 3) := by decide +kernel
theorem dX9_endsFor_25 : decode cX9_endsFor 25 = .ok (.aload_n 0, 1) := by decide +kernel
theorem dX9_endsFor_26 : decode cX9_endsFor 26 = .ok (.getfield 7, 3) := by decide +kernel
theorem dX9_endsFor_29 : decode cX9_endsFor 29 = .ok (.bipush 8, 2) := by decide +kernel
theorem dX9_endsFor_31 : decode cX9_endsFor 31 = .ok (.iaload, 1) := by decide +kernel
theorem dX9_endsFor_32 : decode cX9_endsFor 32 = .ok (.iload_n 2, 1) := by decide +kernel
theorem dX9_endsFor_33 : decode cX9_endsFor 33 = .ok (.isub, 1) := by decide +kernel
theorem dX9_endsFor_34 : decode cX9_endsFor 34 = .ok (.ireturn, 1) := by decide +kernel
theorem dX9_mule_0 : decode cX9_mule 0 = .ok (.iload_n 1, 1) := by decide +kernel
theorem dX9_mule_1 : decode cX9_mule 1 = .ok (.iconst 1, 1) := by decide +kernel
theorem dX9_mule_2 : decode cX9_mule 2 = .ok (.bipush 30, 2) := by decide +kernel
theorem dX9_mule_4 : decode cX9_mule 4 = .ok (.invokestatic 65, 3) := by decide +kernel
theorem dX9_mule_7 : decode cX9_mule 7 = .ok (.ifCond .eq 13, 3) := by decide +kernel
theorem dX9_mule_10 : decode cX9_mule 10 = .ok (.iload_n 2, 1) := by decide +kernel
theorem dX9_mule_11 : decode cX9_mule 11 = .ok (.iconst 1, 1) := by decide +kernel
theorem dX9_mule_12 : decode cX9_mule 12 = .ok (.bipush 9, 2) := by decide +kernel
theorem dX9_mule_14 : decode cX9_mule 14 = .ok (.invokestatic 65, 3) := by decide +kernel
theorem dX9_mule_17 : decode cX9_mule 17 = .ok (.ifCond .ne 6, 3) := by decide +kernel
theorem dX9_mule_20 : decode cX9_mule 20 = .ok (.ldc 95, 2) := by decide +kernel
theorem dX9_mule_22 : decode cX9_mule 22 = .ok (.ireturn, 1) := by decide +kernel
theorem dX9_mule_23 : decode cX9_mule 23 = .ok (.aload_n 0, 1) := by decide +kernel
theorem dX9_mule_24 : decode cX9_mule 24 = .ok (.getfield 7, 3) := by decide +kernel
theorem dX9_mule_27 : decode cX9_mule 27 = .ok (.iconst 0, 1) := by decide +kernel
theorem dX9_mule_28 : decode cX9_mule 28 = .ok (.iaload, 1) := by decide +kernel
theorem dX9_mule_29 : decode cX9_mule 29 = .ok (.istore_n 3, 1) := by decide +kernel
theorem dX9_mule_30 : decode cX9_mule 30 = .ok (.iload_n 3, 1) := by decide +kernel
theorem dX9_mule_31 : decode cX9_mule 31 = .ok (.iconst 4, 1) := by decide +kernel
theorem dX9_mule_32 : decode cX9_mule 32 = .ok (.if_icmp .ne 6, 3) := by decide +kernel
theorem dX9_mule_35 : decode cX9_mule 35 = .ok (.ldc 96, 2) := by decide +kernel
theorem dX9_mule_37 : decode cX9_mule 37 = .ok (.ireturn, 1) := by decide +kernel
theorem dX9_mule_38 : decode cX9_mule 38 = .ok (.aload_n 0, 1) := by decide +kernel
theorem dX9_mule_39 : decode cX9_mule 39 = .ok (.invokevirtual 97, 3) := by decide +kernel
theorem dX9_mule_42 : decode cX9_mule 42 = .ok (.iconst 0, 1) := by decide +kernel
theorem dX9_mule_43 : decode cX9_mule 43 = .ok (.istore 4, 2) := by decide +kernel
theorem dX9_mule_45 : decode cX9_mule 45 = .ok (.iload 4, 2) := by decide +kernel
theorem dX9_mule_47 : decode cX9_mule 47 = .ok (.bipush 9, 2) := by decide +kernel
theorem dX9_mule_49 : decode cX9_mule 49 = .ok (.if_icmp .ge 17, 3) := by decide +kernel
theorem dX9_mule_52 : decode cX9_mule 52 = .ok (.aload_n 0, 1) := by decide +kernel
theorem dX9_mule_53 : decode cX9_mule 53 = .ok (.iload_n 3, 1) := by decide +kernel
theorem dX9_mule_54 : decode cX9_mule 54 = .ok (.iload 4, 2) := by decide +kernel
theorem dX9_mule_56 : decode cX9_mule 56 = .ok (.iconst 0, 1) := by decide +kernel
theorem dX9_mule_57 : decode cX9_mule 57 = .ok (.invokevirtual 47, 3) := by decide +kernel
theorem dX9_mule_60 : decode cX9_mule 60 = .ok (.iinc 4 1, 3) := by decide +kernel
theorem dX9_mule_63 : decode cX9_mule 63 = .ok (.goto (-18), 3) := by decide +kernel
theorem dX9_mule_66 : decode cX9_mule 66 = .ok (.aload_n 0, 1) := by decide +kernel
theorem dX9_mule_67 : decode cX9_mule 67 = .ok (.iload_n 3, 1) := by decide +kernel
theorem dX9_mule_68 : decode cX9_mule 68 = .ok (.iconst 0, 1) := by decide +kernel
theorem dX9_mule_69 : decode cX9_mule 69 = .ok (.iload_n 1, 1) := by decide +kernel
theorem dX9_mule_70 : decode cX9_mule 70 = .ok (.invokevirtual 47, 3) := by decide +kernel
theorem dX9_mule_73 : decode cX9_mule 73 = .ok (.aload_n 0, 1) := by decide +kernel
theorem dX9_mule_74 : decode cX9_mule 74 = .ok (.iload_n 3, 1) := by decide +kernel
theorem dX9_mule_75 : decode cX9_mule 75 = .ok (.iconst 1, 1) := by decide +kernel
theorem dX9_mule_76 : decode cX9_mule 76 = .ok (.iload_n 2, 1) := by decide +kernel
theorem dX9_mule_77 : decode cX9_mule 77 = .ok (.invokevirtual 47, 3) := by decide +kernel
theorem dX9_mule_80 : decode cX9_mule 80 = .ok (.aload_n 0, 1) := by decide +kernel
theorem dX9_mule_81 : decode cX9_mule 81 = .ok (.getfield 7, 3) := by decide +kernel
theorem dX9_mule_84 : decode cX9_mule 84 = .ok (.iconst 0, 1) := by decide +kernel
theorem dX9_mule_85 : decode cX9_mule 85 = .ok (.dup2, 1) := by decide +kernel
theorem dX9_mule_86 : decode cX9_mule 86 = .ok (.iaload, 1) := by decide +kernel
theorem dX9_mule_87 : decode cX9_mule 87 = .ok (.iconst 1, 1) := by decide +kernel
theorem dX9_mule_88 : decode cX9_mule 88 = .ok (.iadd, 1) := by decide +kernel
theorem dX9_mule_89 : decode cX9_mule 89 = .ok (.iastore, 1) := by decide +kernel
theorem dX9_mule_90 : decode cX9_mule 90 = .ok (.iload_n 3, 1) := by decide +kernel
theorem dX9_mule_91 : decode cX9_mule 91 = .ok (.ireturn, 1) := by decide +kernel
theorem dX9_whyNot_0 : decode cX9_whyNot 0 = .ok (.aload_n 0, 1) := by decide +kernel
theorem dX9_whyNot_1 : decode cX9_whyNot 1 = .ok (.iload_n 1, 1) := by decide +kernel
theorem dX9_whyNot_2 : decode cX9_whyNot 2 = .ok (.iconst 2, 1) := by decide +kernel
theorem dX9_whyNot_3 : decode cX9_whyNot 3 = .ok (.invokevirtual 44, 3) := by decide +kernel
theorem dX9_whyNot_6 : decode cX9_whyNot 6 = .ok (.ifCond .eq 5, 3) := by decide +kernel
theorem dX9_whyNot_9 : decode cX9_whyNot 9 = .ok (.iconst 1, 1) := by decide +kernel
theorem dX9_whyNot_10 : decode cX9_whyNot 10 = .ok (.ireturn, 1) := by decide +kernel
theorem dX9_whyNot_11 : decode cX9_whyNot 11 = .ok (.iload_n 2, 1) := by decide +kernel
theorem dX9_whyNot_12 : decode cX9_whyNot 12 = .ok (.aload_n 0, 1) := by decide +kernel
theorem dX9_whyNot_13 : decode cX9_whyNot 13 = .ok (.iload_n 1, 1) := by decide +kernel
theorem dX9_whyNot_14 : decode cX9_whyNot 14 = .ok (.iconst 0, 1) := by decide +kernel
theorem dX9_whyNot_15 : decode cX9_whyNot 15 = .ok (.invokevirtual 44, 3) := by decide +kernel
theorem dX9_whyNot_18 : decode cX9_whyNot 18 = .ok (.if_icmp .le 7, 3) := by decide +kernel
theorem dX9_whyNot_21 : decode cX9_whyNot 21 = .ok (.iconst 2, 1) := by decide +kernel
theorem dX9_whyNot_22 : decode cX9_whyNot 22 = .ok (.goto 35, 3) := by decide +kernel
theorem dX9_whyNot_25 : decode cX9_whyNot 25 = .ok (.aload_n 0, 1) := by decide +kernel
theorem dX9_whyNot_26 : decode cX9_whyNot 26 = .ok (.getfield 7, 3) := by decide +kernel
theorem dX9_whyNot_29 : decode cX9_whyNot 29 = .ok (.bipush 6, 2) := by decide +kernel
theorem dX9_whyNot_31 : decode cX9_whyNot 31 = .ok (.iaload, 1) := by decide +kernel
theorem dX9_whyNot_32 : decode cX9_whyNot 32 = .ok (.iload_n 2, 1) := by decide +kernel
theorem dX9_whyNot_33 : decode cX9_whyNot 33 = .ok (.aload_n 0, 1) := by decide +kernel
theorem dX9_whyNot_34 : decode cX9_whyNot 34 = .ok (.getfield 7, 3) := by decide +kernel
theorem dX9_whyNot_37 : decode cX9_whyNot 37 = .ok (.bipush 15, 2) := by decide +kernel
theorem dX9_whyNot_39 : decode cX9_whyNot 39 = .ok (.iaload, 1) := by decide +kernel
theorem dX9_whyNot_40 : decode cX9_whyNot 40 = .ok (.imul, 1) := by decide +kernel
theorem dX9_whyNot_41 : decode cX9_whyNot 41 = .ok (.iadd, 1) := by decide +kernel
theorem dX9_whyNot_42 : decode cX9_whyNot 42 = .ok (.aload_n 0, 1) := by decide +kernel
theorem dX9_whyNot_43 : decode cX9_whyNot 43 = .ok (.getfield 7, 3) := by decide +kernel
theorem dX9_whyNot_46 : decode cX9_whyNot 46 = .ok (.bipush 16, 2) := by decide +kernel
theorem dX9_whyNot_48 : decode cX9_whyNot 48 = .ok (.iaload, 1) := by decide +kernel
theorem dX9_whyNot_49 : decode cX9_whyNot 49 = .ok (.if_icmp .le 7, 3) := by decide +kernel
theorem dX9_whyNot_52 : decode cX9_whyNot 52 = .ok (.iconst 3, 1) := by decide +kernel
theorem dX9_whyNot_53 : decode cX9_whyNot 53 = .ok (.goto 4, 3) := by decide +kernel
theorem dX9_whyNot_56 : decode cX9_whyNot 56 = .ok (.iconst 0, 1) := by decide +kernel
theorem dX9_whyNot_57 : decode cX9_whyNot 57 = .ok (.ireturn, 1) := by decide +kernel
theorem dX9_send_0 : decode cX9_send 0 = .ok (.aload_n 0, 1) := by decide +kernel
theorem dX9_send_1 : decode cX9_send 1 = .ok (.iload_n 1, 1) := by decide +kernel
theorem dX9_send_2 : decode cX9_send 2 = .ok (.invokevirtual 100, 3) := by decide +kernel
theorem dX9_send_5 : decode cX9_send 5 = .ok (.ifCond .eq 13, 3) := by decide +kernel
theorem dX9_send_8 : decode cX9_send 8 = .ok (.iload_n 2, 1) := by decide +kernel
theorem dX9_send_9 : decode cX9_send 9 = .ok (.iconst 1, 1) := by decide +kernel
theorem dX9_send_10 : decode cX9_send 10 = .ok (.bipush 30, 2) := by decide +kernel
theorem dX9_send_12 : decode cX9_send 12 = .ok (.invokestatic 65, 3) := by decide +kernel
theorem dX9_send_15 : decode cX9_send 15 = .ok (.ifCond .ne 6, 3) := by decide +kernel
theorem dX9_send_18 : decode cX9_send 18 = .ok (.ldc 95, 2) := by decide +kernel
theorem dX9_send_20 : decode cX9_send 20 = .ok (.ireturn, 1) := by decide +kernel
theorem dX9_send_21 : decode cX9_send 21 = .ok (.aload_n 0, 1) := by decide +kernel
theorem dX9_send_22 : decode cX9_send 22 = .ok (.iload_n 1, 1) := by decide +kernel
theorem dX9_send_23 : decode cX9_send 23 = .ok (.iload_n 2, 1) := by decide +kernel
theorem dX9_send_24 : decode cX9_send 24 = .ok (.invokevirtual 104, 3) := by decide +kernel
theorem dX9_send_27 : decode cX9_send 27 = .ok (.ifCond .le 6, 3) := by decide +kernel
theorem dX9_send_30 : decode cX9_send 30 = .ok (.ldc 107, 2) := by decide +kernel
theorem dX9_send_32 : decode cX9_send 32 = .ok (.ireturn, 1) := by decide +kernel
theorem dX9_send_33 : decode cX9_send 33 = .ok (.aload_n 0, 1) := by decide +kernel
theorem dX9_send_34 : decode cX9_send 34 = .ok (.invokevirtual 97, 3) := by decide +kernel
theorem dX9_send_37 : decode cX9_send 37 = .ok (.aload_n 0, 1) := by decide +kernel
theorem dX9_send_38 : decode cX9_send 38 = .ok (.iload_n 1, 1) := by decide +kernel
theorem dX9_send_39 : decode cX9_send 39 = .ok (.iconst 2, 1) := by decide +kernel
theorem dX9_send_40 : decode cX9_send 40 = .ok (.iconst 1, 1) := by decide +kernel
theorem dX9_send_41 : decode cX9_send 41 = .ok (.invokevirtual 47, 3) := by decide +kernel
theorem dX9_send_44 : decode cX9_send 44 = .ok (.aload_n 0, 1) := by decide +kernel
theorem dX9_send_45 : decode cX9_send 45 = .ok (.iload_n 1, 1) := by decide +kernel
theorem dX9_send_46 : decode cX9_send 46 = .ok (.iconst 3, 1) := by decide +kernel
theorem dX9_send_47 : decode cX9_send 47 = .ok (.iconst 2, 1) := by decide +kernel
theorem dX9_send_48 : decode cX9_send 48 = .ok (.invokevirtual 47, 3) := by decide +kernel
theorem dX9_send_51 : decode cX9_send 51 = .ok (.aload_n 0, 1) := by decide +kernel
theorem dX9_send_52 : decode cX9_send 52 = .ok (.iload_n 1, 1) := by decide +kernel
theorem dX9_send_53 : decode cX9_send 53 = .ok (.iconst 4, 1) := by decide +kernel
theorem dX9_send_54 : decode cX9_send 54 = .ok (.iload_n 2, 1) := by decide +kernel
theorem dX9_send_55 : decode cX9_send 55 = .ok (.invokevirtual 47, 3) := by decide +kernel
theorem dX9_send_58 : decode cX9_send 58 = .ok (.aload_n 0, 1) := by decide +kernel
theorem dX9_send_59 : decode cX9_send 59 = .ok (.iload_n 1, 1) := by decide +kernel
theorem dX9_send_60 : decode cX9_send 60 = .ok (.iconst 5, 1) := by decide +kernel
theorem dX9_send_61 : decode cX9_send 61 = .ok (.aload_n 0, 1) := by decide +kernel
theorem dX9_send_62 : decode cX9_send 62 = .ok (.getfield 7, 3) := by decide +kernel
theorem dX9_send_65 : decode cX9_send 65 = .ok (.iconst 3, 1) := by decide +kernel
theorem dX9_send_66 : decode cX9_send 66 = .ok (.iaload, 1) := by decide +kernel
theorem dX9_send_67 : decode cX9_send 67 = .ok (.invokevirtual 47, 3) := by decide +kernel
theorem dX9_send_70 : decode cX9_send 70 = .ok (.aload_n 0, 1) := by decide +kernel
theorem dX9_send_71 : decode cX9_send 71 = .ok (.iload_n 1, 1) := by decide +kernel
theorem dX9_send_72 : decode cX9_send 72 = .ok (.bipush 6, 2) := by decide +kernel
theorem dX9_send_74 : decode cX9_send 74 = .ok (.aload_n 0, 1) := by decide +kernel
theorem dX9_send_75 : decode cX9_send 75 = .ok (.iload_n 1, 1) := by decide +kernel
theorem dX9_send_76 : decode cX9_send 76 = .ok (.bipush 6, 2) := by decide +kernel
theorem dX9_send_78 : decode cX9_send 78 = .ok (.invokevirtual 44, 3) := by decide +kernel
theorem dX9_send_81 : decode cX9_send 81 = .ok (.iconst 1, 1) := by decide +kernel
theorem dX9_send_82 : decode cX9_send 82 = .ok (.iadd, 1) := by decide +kernel
theorem dX9_send_83 : decode cX9_send 83 = .ok (.invokevirtual 47, 3) := by decide +kernel
theorem dX9_send_86 : decode cX9_send 86 = .ok (.aload_n 0, 1) := by decide +kernel
theorem dX9_send_87 : decode cX9_send 87 = .ok (.getfield 7, 3) := by decide +kernel
theorem dX9_send_90 : decode cX9_send 90 = .ok (.bipush 7, 2) := by decide +kernel
theorem dX9_send_92 : decode cX9_send 92 = .ok (.dup2, 1) := by decide +kernel
theorem dX9_send_93 : decode cX9_send 93 = .ok (.iaload, 1) := by decide +kernel
theorem dX9_send_94 : decode cX9_send 94 = .ok (.iload_n 2, 1) := by decide +kernel
theorem dX9_send_95 : decode cX9_send 95 = .ok (.iadd, 1) := by decide +kernel
theorem dX9_send_96 : decode cX9_send 96 = .ok (.iastore, 1) := by decide +kernel
theorem dX9_send_97 : decode cX9_send 97 = .ok (.aload_n 0, 1) := by decide +kernel
theorem dX9_send_98 : decode cX9_send 98 = .ok (.getfield 7, 3) := by decide +kernel
theorem dX9_send_101 : decode cX9_send 101 = .ok (.bipush 6, 2) := by decide +kernel
theorem dX9_send_103 : decode cX9_send 103 = .ok (.dup2, 1) := by decide +kernel
theorem dX9_send_104 : decode cX9_send 104 = .ok (.iaload, 1) := by decide +kernel
theorem dX9_send_105 : decode cX9_send 105 = .ok (.iload_n 2, 1) := by decide +kernel
theorem dX9_send_106 : decode cX9_send 106 = .ok (.aload_n 0, 1) := by decide +kernel
theorem dX9_send_107 : decode cX9_send 107 = .ok (.getfield 7, 3) := by decide +kernel
theorem dX9_send_110 : decode cX9_send 110 = .ok (.bipush 15, 2) := by decide +kernel
theorem dX9_send_112 : decode cX9_send 112 = .ok (.iaload, 1) := by decide +kernel
theorem dX9_send_113 : decode cX9_send 113 = .ok (.imul, 1) := by decide +kernel
theorem dX9_send_114 : decode cX9_send 114 = .ok (.iadd, 1) := by decide +kernel
theorem dX9_send_115 : decode cX9_send 115 = .ok (.iastore, 1) := by decide +kernel
theorem dX9_send_116 : decode cX9_send 116 = .ok (.aload_n 0, 1) := by decide +kernel
theorem dX9_send_117 : decode cX9_send 117 = .ok (.getfield 7, 3) := by decide +kernel
theorem dX9_send_120 : decode cX9_send 120 = .ok (.bipush 6, 2) := by decide +kernel
theorem dX9_send_122 : decode cX9_send 122 = .ok (.iaload, 1) := by decide +kernel
theorem dX9_send_123 : decode cX9_send 123 = .ok (.ireturn, 1) := by decide +kernel
theorem dX9_rest_0 : decode cX9_rest 0 = .ok (.aload_n 0, 1) := by decide +kernel
theorem dX9_rest_1 : decode cX9_rest 1 = .ok (.iload_n 1, 1) := by decide +kernel
theorem dX9_rest_2 : decode cX9_rest 2 = .ok (.invokevirtual 100, 3) := by decide +kernel
theorem dX9_rest_5 : decode cX9_rest 5 = .ok (.ifCond .ne 6, 3) := by decide +kernel
theorem dX9_rest_8 : decode cX9_rest 8 = .ok (.ldc 95, 2) := by decide +kernel
theorem dX9_rest_10 : decode cX9_rest 10 = .ok (.ireturn, 1) := by decide +kernel
theorem dX9_rest_11 : decode cX9_rest 11 = .ok (.aload_n 0, 1) := by decide +kernel
theorem dX9_rest_12 : decode cX9_rest 12 = .ok (.iload_n 1, 1) := by decide +kernel
theorem dX9_rest_13 : decode cX9_rest 13 = .ok (.iconst 2, 1) := by decide +kernel
theorem dX9_rest_14 : decode cX9_rest 14 = .ok (.invokevirtual 44, 3) := by decide +kernel
theorem dX9_rest_17 : decode cX9_rest 17 = .ok (.ifCond .eq 6, 3) := by decide +kernel
theorem dX9_rest_20 : decode cX9_rest 20 = .ok (.ldc 107, 2) := by decide +kernel
theorem dX9_rest_22 : decode cX9_rest 22 = .ok (.ireturn, 1) := by decide +kernel
theorem dX9_rest_23 : decode cX9_rest 23 = .ok (.aload_n 0, 1) := by decide +kernel
theorem dX9_rest_24 : decode cX9_rest 24 = .ok (.invokevirtual 97, 3) := by decide +kernel
theorem dX9_rest_27 : decode cX9_rest 27 = .ok (.aload_n 0, 1) := by decide +kernel
theorem dX9_rest_28 : decode cX9_rest 28 = .ok (.iload_n 1, 1) := by decide +kernel
theorem dX9_rest_29 : decode cX9_rest 29 = .ok (.bipush 6, 2) := by decide +kernel
theorem dX9_rest_31 : decode cX9_rest 31 = .ok (.invokevirtual 44, 3) := by decide +kernel
theorem dX9_rest_34 : decode cX9_rest 34 = .ok (.istore_n 2, 1) := by decide +kernel
theorem dX9_rest_35 : decode cX9_rest 35 = .ok (.aload_n 0, 1) := by decide +kernel
theorem dX9_rest_36 : decode cX9_rest 36 = .ok (.iload_n 1, 1) := by decide +kernel
theorem dX9_rest_37 : decode cX9_rest 37 = .ok (.bipush 6, 2) := by decide +kernel
theorem dX9_rest_39 : decode cX9_rest 39 = .ok (.iconst 0, 1) := by decide +kernel
theorem dX9_rest_40 : decode cX9_rest 40 = .ok (.invokevirtual 47, 3) := by decide +kernel
theorem dX9_rest_43 : decode cX9_rest 43 = .ok (.iload_n 2, 1) := by decide +kernel
theorem dX9_rest_44 : decode cX9_rest 44 = .ok (.ireturn, 1) := by decide +kernel
theorem dX9_pay_0 : decode cX9_pay 0 = .ok (.iload_n 1, 1) := by decide +kernel
theorem dX9_pay_1 : decode cX9_pay 1 = .ok (.iconst 1, 1) := by decide +kernel
theorem dX9_pay_2 : decode cX9_pay 2 = .ok (.sipush 500, 3) := by decide +kernel
theorem dX9_pay_5 : decode cX9_pay 5 = .ok (.invokestatic 65, 3) := by decide +kernel
theorem dX9_pay_8 : decode cX9_pay 8 = .ok (.ifCond .ne 6, 3) := by decide +kernel
theorem dX9_pay_11 : decode cX9_pay 11 = .ok (.ldc 95, 2) := by decide +kernel
theorem dX9_pay_13 : decode cX9_pay 13 = .ok (.ireturn, 1) := by decide +kernel
theorem dX9_pay_14 : decode cX9_pay 14 = .ok (.iload_n 1, 1) := by decide +kernel
theorem dX9_pay_15 : decode cX9_pay 15 = .ok (.aload_n 0, 1) := by decide +kernel
theorem dX9_pay_16 : decode cX9_pay 16 = .ok (.getfield 7, 3) := by decide +kernel
theorem dX9_pay_19 : decode cX9_pay 19 = .ok (.iconst 5, 1) := by decide +kernel
theorem dX9_pay_20 : decode cX9_pay 20 = .ok (.iaload, 1) := by decide +kernel
theorem dX9_pay_21 : decode cX9_pay 21 = .ok (.if_icmp .gt 14, 3) := by decide +kernel
theorem dX9_pay_24 : decode cX9_pay 24 = .ok (.iload_n 1, 1) := by decide +kernel
theorem dX9_pay_25 : decode cX9_pay 25 = .ok (.aload_n 0, 1) := by decide +kernel
theorem dX9_pay_26 : decode cX9_pay 26 = .ok (.getfield 7, 3) := by decide +kernel
theorem dX9_pay_29 : decode cX9_pay 29 = .ok (.bipush 6, 2) := by decide +kernel
theorem dX9_pay_31 : decode cX9_pay 31 = .ok (.iaload, 1) := by decide +kernel
theorem dX9_pay_32 : decode cX9_pay 32 = .ok (.if_icmp .le 6, 3) := by decide +kernel
theorem dX9_pay_35 : decode cX9_pay 35 = .ok (.ldc 107, 2) := by decide +kernel
end
section
theorem dX9_pay_37 : decode cX9_pay 37 = .ok (.ireturn, 1) := by decide +kernel
theorem dX9_pay_38 : decode cX9_pay 38 = .ok (.aload_n 0, 1) := by decide +kernel
theorem dX9_pay_39 : decode cX9_pay 39 = .ok (.invokevirtual 97, 3) := by decide +kernel
theorem dX9_pay_42 : decode cX9_pay 42 = .ok (.aload_n 0, 1) := by decide +kernel
theorem dX9_pay_43 : decode cX9_pay 43 = .ok (.getfield 7, 3) := by decide +kernel
theorem dX9_pay_46 : decode cX9_pay 46 = .ok (.iconst 5, 1) := by decide +kernel
theorem dX9_pay_47 : decode cX9_pay 47 = .ok (.dup2, 1) := by decide +kernel
theorem dX9_pay_48 : decode cX9_pay 48 = .ok (.iaload, 1) := by decide +kernel
theorem dX9_pay_49 : decode cX9_pay 49 = .ok (.iload_n 1, 1) := by decide +kernel
theorem dX9_pay_50 : decode cX9_pay 50 = .ok (.isub, 1) := by decide +kernel
theorem dX9_pay_51 : decode cX9_pay 51 = .ok (.iastore, 1) := by decide +kernel
theorem dX9_pay_52 : decode cX9_pay 52 = .ok (.aload_n 0, 1) := by decide +kernel
theorem dX9_pay_53 : decode cX9_pay 53 = .ok (.getfield 7, 3) := by decide +kernel
theorem dX9_pay_56 : decode cX9_pay 56 = .ok (.bipush 6, 2) := by decide +kernel
theorem dX9_pay_58 : decode cX9_pay 58 = .ok (.dup2, 1) := by decide +kernel
theorem dX9_pay_59 : decode cX9_pay 59 = .ok (.iaload, 1) := by decide +kernel
theorem dX9_pay_60 : decode cX9_pay 60 = .ok (.iload_n 1, 1) := by decide +kernel
theorem dX9_pay_61 : decode cX9_pay 61 = .ok (.isub, 1) := by decide +kernel
theorem dX9_pay_62 : decode cX9_pay 62 = .ok (.iastore, 1) := by decide +kernel
theorem dX9_pay_63 : decode cX9_pay 63 = .ok (.aload_n 0, 1) := by decide +kernel
theorem dX9_pay_64 : decode cX9_pay 64 = .ok (.getfield 7, 3) := by decide +kernel
theorem dX9_pay_67 : decode cX9_pay 67 = .ok (.bipush 14, 2) := by decide +kernel
theorem dX9_pay_69 : decode cX9_pay 69 = .ok (.dup2, 1) := by decide +kernel
theorem dX9_pay_70 : decode cX9_pay 70 = .ok (.iaload, 1) := by decide +kernel
theorem dX9_pay_71 : decode cX9_pay 71 = .ok (.iload_n 1, 1) := by decide +kernel
theorem dX9_pay_72 : decode cX9_pay 72 = .ok (.iadd, 1) := by decide +kernel
theorem dX9_pay_73 : decode cX9_pay 73 = .ok (.iastore, 1) := by decide +kernel
theorem dX9_pay_74 : decode cX9_pay 74 = .ok (.aload_n 0, 1) := by decide +kernel
theorem dX9_pay_75 : decode cX9_pay 75 = .ok (.getfield 7, 3) := by decide +kernel
theorem dX9_pay_78 : decode cX9_pay 78 = .ok (.bipush 6, 2) := by decide +kernel
theorem dX9_pay_80 : decode cX9_pay 80 = .ok (.iaload, 1) := by decide +kernel
theorem dX9_pay_81 : decode cX9_pay 81 = .ok (.ireturn, 1) := by decide +kernel
theorem dX9_group_0 : decode cX9_group 0 = .ok (.iload_n 1, 1) := by decide +kernel
theorem dX9_group_1 : decode cX9_group 1 = .ok (.iconst 1, 1) := by decide +kernel
theorem dX9_group_2 : decode cX9_group 2 = .ok (.bipush 12, 2) := by decide +kernel
theorem dX9_group_4 : decode cX9_group 4 = .ok (.invokestatic 65, 3) := by decide +kernel
theorem dX9_group_7 : decode cX9_group 7 = .ok (.ifCond .eq 23, 3) := by decide +kernel
theorem dX9_group_10 : decode cX9_group 10 = .ok (.iload_n 2, 1) := by decide +kernel
theorem dX9_group_11 : decode cX9_group 11 = .ok (.iconst 0, 1) := by decide +kernel
theorem dX9_group_12 : decode cX9_group 12 = .ok (.bipush 60, 2) := by decide +kernel
theorem dX9_group_14 : decode cX9_group 14 = .ok (.invokestatic 65, 3) := by decide +kernel
theorem dX9_group_17 : decode cX9_group 17 = .ok (.ifCond .eq 13, 3) := by decide +kernel
theorem dX9_group_20 : decode cX9_group 20 = .ok (.iload_n 3, 1) := by decide +kernel
theorem dX9_group_21 : decode cX9_group 21 = .ok (.iconst 1, 1) := by decide +kernel
theorem dX9_group_22 : decode cX9_group 22 = .ok (.bipush 9, 2) := by decide +kernel
theorem dX9_group_24 : decode cX9_group 24 = .ok (.invokestatic 65, 3) := by decide +kernel
theorem dX9_group_27 : decode cX9_group 27 = .ok (.ifCond .ne 6, 3) := by decide +kernel
theorem dX9_group_30 : decode cX9_group 30 = .ok (.ldc 95, 2) := by decide +kernel
theorem dX9_group_32 : decode cX9_group 32 = .ok (.ireturn, 1) := by decide +kernel
theorem dX9_group_33 : decode cX9_group 33 = .ok (.aload_n 0, 1) := by decide +kernel
theorem dX9_group_34 : decode cX9_group 34 = .ok (.getfield 7, 3) := by decide +kernel
theorem dX9_group_37 : decode cX9_group 37 = .ok (.iconst 1, 1) := by decide +kernel
theorem dX9_group_38 : decode cX9_group 38 = .ok (.iaload, 1) := by decide +kernel
theorem dX9_group_39 : decode cX9_group 39 = .ok (.istore 4, 2) := by decide +kernel
theorem dX9_group_41 : decode cX9_group 41 = .ok (.iload 4, 2) := by decide +kernel
theorem dX9_group_43 : decode cX9_group 43 = .ok (.bipush 10, 2) := by decide +kernel
theorem dX9_group_45 : decode cX9_group 45 = .ok (.if_icmp .ne 6, 3) := by decide +kernel
theorem dX9_group_48 : decode cX9_group 48 = .ok (.ldc 96, 2) := by decide +kernel
theorem dX9_group_50 : decode cX9_group 50 = .ok (.ireturn, 1) := by decide +kernel
theorem dX9_group_51 : decode cX9_group 51 = .ok (.aload_n 0, 1) := by decide +kernel
theorem dX9_group_52 : decode cX9_group 52 = .ok (.invokevirtual 97, 3) := by decide +kernel
theorem dX9_group_55 : decode cX9_group 55 = .ok (.bipush 55, 2) := by decide +kernel
theorem dX9_group_57 : decode cX9_group 57 = .ok (.bipush 6, 2) := by decide +kernel
theorem dX9_group_59 : decode cX9_group 59 = .ok (.iload 4, 2) := by decide +kernel
theorem dX9_group_61 : decode cX9_group 61 = .ok (.imul, 1) := by decide +kernel
theorem dX9_group_62 : decode cX9_group 62 = .ok (.iadd, 1) := by decide +kernel
theorem dX9_group_63 : decode cX9_group 63 = .ok (.istore 5, 2) := by decide +kernel
theorem dX9_group_65 : decode cX9_group 65 = .ok (.aload_n 0, 1) := by decide +kernel
theorem dX9_group_66 : decode cX9_group 66 = .ok (.getfield 7, 3) := by decide +kernel
theorem dX9_group_69 : decode cX9_group 69 = .ok (.iload 5, 2) := by decide +kernel
theorem dX9_group_71 : decode cX9_group 71 = .ok (.iconst 0, 1) := by decide +kernel
theorem dX9_group_72 : decode cX9_group 72 = .ok (.iadd, 1) := by decide +kernel
theorem dX9_group_73 : decode cX9_group 73 = .ok (.aload_n 0, 1) := by decide +kernel
theorem dX9_group_74 : decode cX9_group 74 = .ok (.getfield 7, 3) := by decide +kernel
theorem dX9_group_77 : decode cX9_group 77 = .ok (.iconst 2, 1) := by decide +kernel
theorem dX9_group_78 : decode cX9_group 78 = .ok (.iaload, 1) := by decide +kernel
theorem dX9_group_79 : decode cX9_group 79 = .ok (.iastore, 1) := by decide +kernel
theorem dX9_group_80 : decode cX9_group 80 = .ok (.aload_n 0, 1) := by decide +kernel
theorem dX9_group_81 : decode cX9_group 81 = .ok (.getfield 7, 3) := by decide +kernel
theorem dX9_group_84 : decode cX9_group 84 = .ok (.iload 5, 2) := by decide +kernel
theorem dX9_group_86 : decode cX9_group 86 = .ok (.iconst 1, 1) := by decide +kernel
theorem dX9_group_87 : decode cX9_group 87 = .ok (.iadd, 1) := by decide +kernel
theorem dX9_group_88 : decode cX9_group 88 = .ok (.iload_n 1, 1) := by decide +kernel
theorem dX9_group_89 : decode cX9_group 89 = .ok (.iastore, 1) := by decide +kernel
theorem dX9_group_90 : decode cX9_group 90 = .ok (.aload_n 0, 1) := by decide +kernel
theorem dX9_group_91 : decode cX9_group 91 = .ok (.getfield 7, 3) := by decide +kernel
theorem dX9_group_94 : decode cX9_group 94 = .ok (.iload 5, 2) := by decide +kernel
theorem dX9_group_96 : decode cX9_group 96 = .ok (.iconst 2, 1) := by decide +kernel
theorem dX9_group_97 : decode cX9_group 97 = .ok (.iadd, 1) := by decide +kernel
theorem dX9_group_98 : decode cX9_group 98 = .ok (.aload_n 0, 1) := by decide +kernel
theorem dX9_group_99 : decode cX9_group 99 = .ok (.getfield 7, 3) := by decide +kernel
theorem dX9_group_102 : decode cX9_group 102 = .ok (.iconst 3, 1) := by decide +kernel
theorem dX9_group_103 : decode cX9_group 103 = .ok (.iaload, 1) := by decide +kernel
theorem dX9_group_104 : decode cX9_group 104 = .ok (.iload_n 2, 1) := by decide +kernel
theorem dX9_group_105 : decode cX9_group 105 = .ok (.iadd, 1) := by decide +kernel
theorem dX9_group_106 : decode cX9_group 106 = .ok (.iastore, 1) := by decide +kernel
theorem dX9_group_107 : decode cX9_group 107 = .ok (.aload_n 0, 1) := by decide +kernel
theorem dX9_group_108 : decode cX9_group 108 = .ok (.getfield 7, 3) := by decide +kernel
theorem dX9_group_111 : decode cX9_group 111 = .ok (.iload 5, 2) := by decide +kernel
theorem dX9_group_113 : decode cX9_group 113 = .ok (.iconst 3, 1) := by decide +kernel
theorem dX9_group_114 : decode cX9_group 114 = .ok (.iadd, 1) := by decide +kernel
theorem dX9_group_115 : decode cX9_group 115 = .ok (.iload_n 3, 1) := by decide +kernel
theorem dX9_group_116 : decode cX9_group 116 = .ok (.iastore, 1) := by decide +kernel
theorem dX9_group_117 : decode cX9_group 117 = .ok (.aload_n 0, 1) := by decide +kernel
theorem dX9_group_118 : decode cX9_group 118 = .ok (.getfield 7, 3) := by decide +kernel
theorem dX9_group_121 : decode cX9_group 121 = .ok (.iload 5, 2) := by decide +kernel
theorem dX9_group_123 : decode cX9_group 123 = .ok (.iconst 4, 1) := by decide +kernel
theorem dX9_group_124 : decode cX9_group 124 = .ok (.iadd, 1) := by decide +kernel
theorem dX9_group_125 : decode cX9_group 125 = .ok (.iconst 0, 1) := by decide +kernel
theorem dX9_group_126 : decode cX9_group 126 = .ok (.iastore, 1) := by decide +kernel
theorem dX9_group_127 : decode cX9_group 127 = .ok (.aload_n 0, 1) := by decide +kernel
theorem dX9_group_128 : decode cX9_group 128 = .ok (.getfield 7, 3) := by decide +kernel
theorem dX9_group_131 : decode cX9_group 131 = .ok (.iload 5, 2) := by decide +kernel
theorem dX9_group_133 : decode cX9_group 133 = .ok (.iconst 5, 1) := by decide +kernel
theorem dX9_group_134 : decode cX9_group 134 = .ok (.iadd, 1) := by decide +kernel
theorem dX9_group_135 : decode cX9_group 135 = .ok (.iconst 0, 1) := by decide +kernel
theorem dX9_group_136 : decode cX9_group 136 = .ok (.iastore, 1) := by decide +kernel
theorem dX9_group_137 : decode cX9_group 137 = .ok (.aload_n 0, 1) := by decide +kernel
theorem dX9_group_138 : decode cX9_group 138 = .ok (.getfield 7, 3) := by decide +kernel
theorem dX9_group_141 : decode cX9_group 141 = .ok (.iconst 1, 1) := by decide +kernel
theorem dX9_group_142 : decode cX9_group 142 = .ok (.dup2, 1) := by decide +kernel
theorem dX9_group_143 : decode cX9_group 143 = .ok (.iaload, 1) := by decide +kernel
theorem dX9_group_144 : decode cX9_group 144 = .ok (.iconst 1, 1) := by decide +kernel
theorem dX9_group_145 : decode cX9_group 145 = .ok (.iadd, 1) := by decide +kernel
theorem dX9_group_146 : decode cX9_group 146 = .ok (.iastore, 1) := by decide +kernel
theorem dX9_group_147 : decode cX9_group 147 = .ok (.aload_n 0, 1) := by decide +kernel
theorem dX9_group_148 : decode cX9_group 148 = .ok (.getfield 7, 3) := by decide +kernel
theorem dX9_group_151 : decode cX9_group 151 = .ok (.iconst 2, 1) := by decide +kernel
theorem dX9_group_152 : decode cX9_group 152 = .ok (.dup2, 1) := by decide +kernel
theorem dX9_group_153 : decode cX9_group 153 = .ok (.iaload, 1) := by decide +kernel
theorem dX9_group_154 : decode cX9_group 154 = .ok (.iconst 1, 1) := by decide +kernel
theorem dX9_group_155 : decode cX9_group 155 = .ok (.iadd, 1) := by decide +kernel
theorem dX9_group_156 : decode cX9_group 156 = .ok (.iastore, 1) := by decide +kernel
theorem dX9_group_157 : decode cX9_group 157 = .ok (.aload_n 0, 1) := by decide +kernel
theorem dX9_group_158 : decode cX9_group 158 = .ok (.getfield 7, 3) := by decide +kernel
theorem dX9_group_161 : decode cX9_group 161 = .ok (.iconst 2, 1) := by decide +kernel
theorem dX9_group_162 : decode cX9_group 162 = .ok (.iaload, 1) := by decide +kernel
theorem dX9_group_163 : decode cX9_group 163 = .ok (.iconst 1, 1) := by decide +kernel
theorem dX9_group_164 : decode cX9_group 164 = .ok (.isub, 1) := by decide +kernel
theorem dX9_group_165 : decode cX9_group 165 = .ok (.ireturn, 1) := by decide +kernel
theorem dX9_off_0 : decode cX9_off 0 = .ok (.aload_n 0, 1) := by decide +kernel
theorem dX9_off_1 : decode cX9_off 1 = .ok (.iload_n 1, 1) := by decide +kernel
theorem dX9_off_2 : decode cX9_off 2 = .ok (.invokevirtual 108, 3) := by decide +kernel
theorem dX9_off_5 : decode cX9_off 5 = .ok (.istore_n 2, 1) := by decide +kernel
theorem dX9_off_6 : decode cX9_off 6 = .ok (.iload_n 2, 1) := by decide +kernel
theorem dX9_off_7 : decode cX9_off 7 = .ok (.ifCond .ge 6, 3) := by decide +kernel
theorem dX9_off_10 : decode cX9_off 10 = .ok (.ldc 95, 2) := by decide +kernel
theorem dX9_off_12 : decode cX9_off 12 = .ok (.ireturn, 1) := by decide +kernel
theorem dX9_off_13 : decode cX9_off 13 = .ok (.aload_n 0, 1) := by decide +kernel
theorem dX9_off_14 : decode cX9_off 14 = .ok (.invokevirtual 97, 3) := by decide +kernel
theorem dX9_off_17 : decode cX9_off 17 = .ok (.aload_n 0, 1) := by decide +kernel
theorem dX9_off_18 : decode cX9_off 18 = .ok (.iload_n 2, 1) := by decide +kernel
theorem dX9_off_19 : decode cX9_off 19 = .ok (.invokevirtual 89, 3) := by decide +kernel
theorem dX9_off_22 : decode cX9_off 22 = .ok (.aload_n 0, 1) := by decide +kernel
theorem dX9_off_23 : decode cX9_off 23 = .ok (.getfield 7, 3) := by decide +kernel
theorem dX9_off_26 : decode cX9_off 26 = .ok (.iconst 1, 1) := by decide +kernel
theorem dX9_off_27 : decode cX9_off 27 = .ok (.iaload, 1) := by decide +kernel
theorem dX9_off_28 : decode cX9_off 28 = .ok (.ireturn, 1) := by decide +kernel
theorem dX9_end_0 : decode cX9_end 0 = .ok (.iload_n 1, 1) := by decide +kernel
theorem dX9_end_1 : decode cX9_end 1 = .ok (.iconst 1, 1) := by decide +kernel
theorem dX9_end_2 : decode cX9_end 2 = .ok (.bipush 60, 2) := by decide +kernel
theorem dX9_end_4 : decode cX9_end 4 = .ok (.invokestatic 65, 3) := by decide +kernel
theorem dX9_end_7 : decode cX9_end 7 = .ok (.ifCond .ne 6, 3) := by decide +kernel
theorem dX9_end_10 : decode cX9_end 10 = .ok (.ldc 95, 2) := by decide +kernel
theorem dX9_end_12 : decode cX9_end 12 = .ok (.ireturn, 1) := by decide +kernel
theorem dX9_end_13 : decode cX9_end 13 = .ok (.aload_n 0, 1) := by decide +kernel
theorem dX9_end_14 : decode cX9_end 14 = .ok (.getfield 7, 3) := by decide +kernel
theorem dX9_end_17 : decode cX9_end 17 = .ok (.iconst 3, 1) := by decide +kernel
theorem dX9_end_18 : decode cX9_end 18 = .ok (.iaload, 1) := by decide +kernel
theorem dX9_end_19 : decode cX9_end 19 = .ok (.iload_n 1, 1) := by decide +kernel
theorem dX9_end_20 : decode cX9_end 20 = .ok (.iadd, 1) := by decide +kernel
theorem dX9_end_21 : decode cX9_end 21 = .ok (.sipush 9999, 3) := by decide +kernel
theorem dX9_end_24 : decode cX9_end 24 = .ok (.if_icmp .le 6, 3) := by decide +kernel
theorem dX9_end_27 : decode cX9_end 27 = .ok (.ldc 96, 2) := by decide +kernel
theorem dX9_end_29 : decode cX9_end 29 = .ok (.ireturn, 1) := by decide +kernel
theorem dX9_end_30 : decode cX9_end 30 = .ok (.aload_n 0, 1) := by decide +kernel
theorem dX9_end_31 : decode cX9_end 31 = .ok (.invokevirtual 97, 3) := by decide +kernel
theorem dX9_end_34 : decode cX9_end 34 = .ok (.aload_n 0, 1) := by decide +kernel
theorem dX9_end_35 : decode cX9_end 35 = .ok (.iload_n 1, 1) := by decide +kernel
theorem dX9_end_36 : decode cX9_end 36 = .ok (.invokevirtual 111, 3) := by decide +kernel
theorem dX9_end_39 : decode cX9_end 39 = .ok (.ireturn, 1) := by decide +kernel
theorem dX9_maySet_0 : decode cX9_maySet 0 = .ok (.iload_n 0, 1) := by decide +kernel
theorem dX9_maySet_1 : decode cX9_maySet 1 = .ok (.tableswitch 53 0 2 #[27, 35, 45], 27) := by decide +kernel
theorem dX9_maySet_28 : decode cX9_maySet 28 = .ok (.iload_n 1, 1) := by decide +kernel
theorem dX9_maySet_29 : decode cX9_maySet 29 = .ok (.iconst 1, 1) := by decide +kernel
theorem dX9_maySet_30 : decode cX9_maySet 30 = .ok (.bipush 9, 2) := by decide +kernel
theorem dX9_maySet_32 : decode cX9_maySet 32 = .ok (.invokestatic 65, 3) := by decide +kernel
theorem dX9_maySet_35 : decode cX9_maySet 35 = .ok (.ireturn, 1) := by decide +kernel
theorem dX9_maySet_36 : decode cX9_maySet 36 = .ok (.iload_n 1, 1) := by decide +kernel
theorem dX9_maySet_37 : decode cX9_maySet 37 = .ok (.bipush 10, 2) := by decide +kernel
theorem dX9_maySet_39 : decode cX9_maySet 39 = .ok (.sipush 500, 3) := by decide +kernel
theorem dX9_maySet_42 : decode cX9_maySet 42 = .ok (.invokestatic 65, 3) := by decide +kernel
theorem dX9_maySet_45 : decode cX9_maySet 45 = .ok (.ireturn, 1) := by decide +kernel
theorem dX9_maySet_46 : decode cX9_maySet 46 = .ok (.iload_n 1, 1) := by decide +kernel
theorem dX9_maySet_47 : decode cX9_maySet 47 = .ok (.iconst 0, 1) := by decide +kernel
theorem dX9_maySet_48 : decode cX9_maySet 48 = .ok (.bipush 15, 2) := by decide +kernel
theorem dX9_maySet_50 : decode cX9_maySet 50 = .ok (.invokestatic 65, 3) := by decide +kernel
theorem dX9_maySet_53 : decode cX9_maySet 53 = .ok (.ireturn, 1) := by decide +kernel
theorem dX9_maySet_54 : decode cX9_maySet 54 = .ok (.iload_n 1, 1) := by decide +kernel
theorem dX9_maySet_55 : decode cX9_maySet 55 = .ok (.iconst 0, 1) := by decide +kernel
theorem dX9_maySet_56 : decode cX9_maySet 56 = .ok (.bipush 90, 2) := by decide +kernel
theorem dX9_maySet_58 : decode cX9_maySet 58 = .ok (.invokestatic 65, 3) := by decide +kernel
theorem dX9_maySet_61 : decode cX9_maySet 61 = .ok (.ireturn, 1) := by decide +kernel
theorem dX9_set_0 : decode cX9_set 0 = .ok (.iload_n 1, 1) := by decide +kernel
theorem dX9_set_1 : decode cX9_set 1 = .ok (.iconst 0, 1) := by decide +kernel
theorem dX9_set_2 : decode cX9_set 2 = .ok (.iconst 3, 1) := by decide +kernel
theorem dX9_set_3 : decode cX9_set 3 = .ok (.invokestatic 65, 3) := by decide +kernel
theorem dX9_set_6 : decode cX9_set 6 = .ok (.ifCond .eq 11, 3) := by decide +kernel
theorem dX9_set_9 : decode cX9_set 9 = .ok (.iload_n 1, 1) := by decide +kernel
theorem dX9_set_10 : decode cX9_set 10 = .ok (.iload_n 2, 1) := by decide +kernel
theorem dX9_set_11 : decode cX9_set 11 = .ok (.invokestatic 114, 3) := by decide +kernel
theorem dX9_set_14 : decode cX9_set 14 = .ok (.ifCond .ne 6, 3) := by decide +kernel
theorem dX9_set_17 : decode cX9_set 17 = .ok (.ldc 95, 2) := by decide +kernel
theorem dX9_set_19 : decode cX9_set 19 = .ok (.ireturn, 1) := by decide +kernel
theorem dX9_set_20 : decode cX9_set 20 = .ok (.aload_n 0, 1) := by decide +kernel
theorem dX9_set_21 : decode cX9_set 21 = .ok (.invokevirtual 97, 3) := by decide +kernel
theorem dX9_set_24 : decode cX9_set 24 = .ok (.aload_n 0, 1) := by decide +kernel
theorem dX9_set_25 : decode cX9_set 25 = .ok (.getfield 7, 3) := by decide +kernel
theorem dX9_set_28 : decode cX9_set 28 = .ok (.bipush 15, 2) := by decide +kernel
theorem dX9_set_30 : decode cX9_set 30 = .ok (.iload_n 1, 1) := by decide +kernel
theorem dX9_set_31 : decode cX9_set 31 = .ok (.iadd, 1) := by decide +kernel
theorem dX9_set_32 : decode cX9_set 32 = .ok (.iaload, 1) := by decide +kernel
theorem dX9_set_33 : decode cX9_set 33 = .ok (.istore_n 3, 1) := by decide +kernel
theorem dX9_set_34 : decode cX9_set 34 = .ok (.aload_n 0, 1) := by decide +kernel
theorem dX9_set_35 : decode cX9_set 35 = .ok (.getfield 7, 3) := by decide +kernel
theorem dX9_set_38 : decode cX9_set 38 = .ok (.bipush 15, 2) := by decide +kernel
theorem dX9_set_40 : decode cX9_set 40 = .ok (.iload_n 1, 1) := by decide +kernel
theorem dX9_set_41 : decode cX9_set 41 = .ok (.iadd, 1) := by decide +kernel
theorem dX9_set_42 : decode cX9_set 42 = .ok (.iload_n 2, 1) := by decide +kernel
theorem dX9_set_43 : decode cX9_set 43 = .ok (.iastore, 1) := by decide +kernel
theorem dX9_set_44 : decode cX9_set 44 = .ok (.iload_n 3, 1) := by decide +kernel
theorem dX9_set_45 : decode cX9_set 45 = .ok (.ireturn, 1) := by decide +kernel
theorem dX9_muleOf_0 : decode cX9_muleOf 0 = .ok (.aload_n 0, 1) := by decide +kernel
theorem dX9_muleOf_1 : decode cX9_muleOf 1 = .ok (.iload_n 1, 1) := by decide +kernel
theorem dX9_muleOf_2 : decode cX9_muleOf 2 = .ok (.invokevirtual 100, 3) := by decide +kernel
theorem dX9_muleOf_5 : decode cX9_muleOf 5 = .ok (.ifCond .eq 13, 3) := by decide +kernel
theorem dX9_muleOf_8 : decode cX9_muleOf 8 = .ok (.iload_n 2, 1) := by decide +kernel
theorem dX9_muleOf_9 : decode cX9_muleOf 9 = .ok (.iconst 0, 1) := by decide +kernel
theorem dX9_muleOf_10 : decode cX9_muleOf 10 = .ok (.bipush 7, 2) := by decide +kernel
theorem dX9_muleOf_12 : decode cX9_muleOf 12 = .ok (.invokestatic 65, 3) := by decide +kernel
theorem dX9_muleOf_15 : decode cX9_muleOf 15 = .ok (.ifCond .ne 6, 3) := by decide +kernel
theorem dX9_muleOf_18 : decode cX9_muleOf 18 = .ok (.ldc 95, 2) := by decide +kernel
theorem dX9_muleOf_20 : decode cX9_muleOf 20 = .ok (.ireturn, 1) := by decide +kernel
theorem dX9_muleOf_21 : decode cX9_muleOf 21 = .ok (.aload_n 0, 1) := by decide +kernel
theorem dX9_muleOf_22 : decode cX9_muleOf 22 = .ok (.iload_n 1, 1) := by decide +kernel
theorem dX9_muleOf_23 : decode cX9_muleOf 23 = .ok (.iload_n 2, 1) := by decide +kernel
theorem dX9_muleOf_24 : decode cX9_muleOf 24 = .ok (.iconst 5, 1) := by decide +kernel
theorem dX9_muleOf_25 : decode cX9_muleOf 25 = .ok (.if_icmp .ge 7, 3) := by decide +kernel
theorem dX9_muleOf_28 : decode cX9_muleOf 28 = .ok (.iload_n 2, 1) := by decide +kernel
theorem dX9_muleOf_29 : decode cX9_muleOf 29 = .ok (.goto 6, 3) := by decide +kernel
theorem dX9_muleOf_32 : decode cX9_muleOf 32 = .ok (.iload_n 2, 1) := by decide +kernel
theorem dX9_muleOf_33 : decode cX9_muleOf 33 = .ok (.iconst 1, 1) := by decide +kernel
theorem dX9_muleOf_34 : decode cX9_muleOf 34 = .ok (.iadd, 1) := by decide +kernel
theorem dX9_muleOf_35 : decode cX9_muleOf 35 = .ok (.invokevirtual 44, 3) := by decide +kernel
theorem dX9_muleOf_38 : decode cX9_muleOf 38 = .ok (.ireturn, 1) := by decide +kernel
theorem dX9_groupOf_0 : decode cX9_groupOf 0 = .ok (.aload_n 0, 1) := by decide +kernel
theorem dX9_groupOf_1 : decode cX9_groupOf 1 = .ok (.iload_n 1, 1) := by decide +kernel
theorem dX9_groupOf_2 : decode cX9_groupOf 2 = .ok (.invokevirtual 108, 3) := by decide +kernel
theorem dX9_groupOf_5 : decode cX9_groupOf 5 = .ok (.istore_n 3, 1) := by decide +kernel
theorem dX9_groupOf_6 : decode cX9_groupOf 6 = .ok (.iload_n 3, 1) := by decide +kernel
theorem dX9_groupOf_7 : decode cX9_groupOf 7 = .ok (.ifCond .lt 13, 3) := by decide +kernel
theorem dX9_groupOf_10 : decode cX9_groupOf 10 = .ok (.iload_n 2, 1) := by decide +kernel
theorem dX9_groupOf_11 : decode cX9_groupOf 11 = .ok (.iconst 0, 1) := by decide +kernel
theorem dX9_groupOf_12 : decode cX9_groupOf 12 = .ok (.bipush 6, 2) := by decide +kernel
theorem dX9_groupOf_14 : decode cX9_groupOf 14 = .ok (.invokestatic 65, 3) := by decide +kernel
theorem dX9_groupOf_17 : decode cX9_groupOf 17 = .ok (.ifCond .ne 6, 3) := by decide +kernel
theorem dX9_groupOf_20 : decode cX9_groupOf 20 = .ok (.ldc 95, 2) := by decide +kernel
theorem dX9_groupOf_22 : decode cX9_groupOf 22 = .ok (.ireturn, 1) := by decide +kernel
theorem dX9_groupOf_23 : decode cX9_groupOf 23 = .ok (.iload_n 2, 1) := by decide +kernel
theorem dX9_groupOf_24 : decode cX9_groupOf 24 = .ok (.tableswitch 71 3 6 #[32, 42, 62, 62], 32) := by decide +kernel
theorem dX9_groupOf_56 : decode cX9_groupOf 56 = .ok (.aload_n 0, 1) := by decide +kernel
theorem dX9_groupOf_57 : decode cX9_groupOf 57 = .ok (.iload_n 3, 1) := by decide +kernel
theorem dX9_groupOf_58 : decode cX9_groupOf 58 = .ok (.iconst 1, 1) := by decide +kernel
theorem dX9_groupOf_59 : decode cX9_groupOf 59 = .ok (.invokevirtual 36, 3) := by decide +kernel
theorem dX9_groupOf_62 : decode cX9_groupOf 62 = .ok (.invokestatic 69, 3) := by decide +kernel
theorem dX9_groupOf_65 : decode cX9_groupOf 65 = .ok (.ireturn, 1) := by decide +kernel
theorem dX9_groupOf_66 : decode cX9_groupOf 66 = .ok (.aload_n 0, 1) := by decide +kernel
theorem dX9_groupOf_67 : decode cX9_groupOf 67 = .ok (.iload_n 3, 1) := by decide +kernel
theorem dX9_groupOf_68 : decode cX9_groupOf 68 = .ok (.aload_n 0, 1) := by decide +kernel
theorem dX9_groupOf_69 : decode cX9_groupOf 69 = .ok (.getfield 7, 3) := by decide +kernel
theorem dX9_groupOf_72 : decode cX9_groupOf 72 = .ok (.iconst 3, 1) := by decide +kernel
theorem dX9_groupOf_73 : decode cX9_groupOf 73 = .ok (.iaload, 1) := by decide +kernel
theorem dX9_groupOf_74 : decode cX9_groupOf 74 = .ok (.invokevirtual 82, 3) := by decide +kernel
theorem dX9_groupOf_77 : decode cX9_groupOf 77 = .ok (.ifCond .eq 7, 3) := by decide +kernel
theorem dX9_groupOf_80 : decode cX9_groupOf 80 = .ok (.iconst 1, 1) := by decide +kernel
theorem dX9_groupOf_81 : decode cX9_groupOf 81 = .ok (.goto 4, 3) := by decide +kernel
theorem dX9_groupOf_84 : decode cX9_groupOf 84 = .ok (.iconst 0, 1) := by decide +kernel
theorem dX9_groupOf_85 : decode cX9_groupOf 85 = .ok (.ireturn, 1) := by decide +kernel
theorem dX9_groupOf_86 : decode cX9_groupOf 86 = .ok (.aload_n 0, 1) := by decide +kernel
theorem dX9_groupOf_87 : decode cX9_groupOf 87 = .ok (.iload_n 3, 1) := by decide +kernel
theorem dX9_groupOf_88 : decode cX9_groupOf 88 = .ok (.iload_n 2, 1) := by decide +kernel
theorem dX9_groupOf_89 : decode cX9_groupOf 89 = .ok (.iconst 1, 1) := by decide +kernel
theorem dX9_groupOf_90 : decode cX9_groupOf 90 = .ok (.isub, 1) := by decide +kernel
theorem dX9_groupOf_91 : decode cX9_groupOf 91 = .ok (.invokevirtual 36, 3) := by decide +kernel
theorem dX9_groupOf_94 : decode cX9_groupOf 94 = .ok (.ireturn, 1) := by decide +kernel
theorem dX9_groupOf_95 : decode cX9_groupOf 95 = .ok (.aload_n 0, 1) := by decide +kernel
theorem dX9_groupOf_96 : decode cX9_groupOf 96 = .ok (.iload_n 3, 1) := by decide +kernel
theorem dX9_groupOf_97 : decode cX9_groupOf 97 = .ok (.iload_n 2, 1) := by decide +kernel
theorem dX9_groupOf_98 : decode cX9_groupOf 98 = .ok (.iconst 1, 1) := by decide +kernel
theorem dX9_groupOf_99 : decode cX9_groupOf 99 = .ok (.iadd, 1) := by decide +kernel
theorem dX9_groupOf_100 : decode cX9_groupOf 100 = .ok (.invokevirtual 36, 3) := by decide +kernel
theorem dX9_groupOf_103 : decode cX9_groupOf 103 = .ok (.ireturn, 1) := by decide +kernel
theorem dX9_number_0 : decode cX9_number 0 = .ok (.iload_n 1, 1) := by decide +kernel
theorem dX9_number_1 : decode cX9_number 1 = .ok (.ifCond .ge 6, 3) := by decide +kernel
theorem dX9_number_4 : decode cX9_number 4 = .ok (.ldc 95, 2) := by decide +kernel
theorem dX9_number_6 : decode cX9_number 6 = .ok (.ireturn, 1) := by decide +kernel
theorem dX9_number_7 : decode cX9_number 7 = .ok (.iload_n 1, 1) := by decide +kernel
theorem dX9_number_8 : decode cX9_number 8 = .ok (.aload_n 0, 1) := by decide +kernel
theorem dX9_number_9 : decode cX9_number 9 = .ok (.getfield 7, 3) := by decide +kernel
theorem dX9_number_12 : decode cX9_number 12 = .ok (.iconst 1, 1) := by decide +kernel
theorem dX9_number_13 : decode cX9_number 13 = .ok (.iaload, 1) := by decide +kernel
theorem dX9_number_14 : decode cX9_number 14 = .ok (.if_icmp .ge 12, 3) := by decide +kernel
theorem dX9_number_17 : decode cX9_number 17 = .ok (.aload_n 0, 1) := by decide +kernel
theorem dX9_number_18 : decode cX9_number 18 = .ok (.iload_n 1, 1) := by decide +kernel
theorem dX9_number_19 : decode cX9_number 19 = .ok (.iconst 0, 1) := by decide +kernel
theorem dX9_number_20 : decode cX9_number 20 = .ok (.invokevirtual 36, 3) := by decide +kernel
theorem dX9_number_23 : decode cX9_number 23 = .ok (.goto 5, 3) := by decide +kernel
theorem dX9_number_26 : decode cX9_number 26 = .ok (.ldc 40, 2) := by decide +kernel
theorem dX9_number_28 : decode cX9_number 28 = .ok (.ireturn, 1) := by decide +kernel
theorem dX9_loaves_0 : decode cX9_loaves 0 = .ok (.iload_n 1, 1) := by decide +kernel
theorem dX9_loaves_1 : decode cX9_loaves 1 = .ok (.iconst 0, 1) := by decide +kernel
theorem dX9_loaves_2 : decode cX9_loaves 2 = .ok (.bipush 20, 2) := by decide +kernel
theorem dX9_loaves_4 : decode cX9_loaves 4 = .ok (.invokestatic 65, 3) := by decide +kernel
theorem dX9_loaves_7 : decode cX9_loaves 7 = .ok (.ifCond .eq 15, 3) := by decide +kernel
theorem dX9_loaves_10 : decode cX9_loaves 10 = .ok (.aload_n 0, 1) := by decide +kernel
theorem dX9_loaves_11 : decode cX9_loaves 11 = .ok (.getfield 7, 3) := by decide +kernel
theorem dX9_loaves_14 : decode cX9_loaves 14 = .ok (.bipush 115, 2) := by decide +kernel
theorem dX9_loaves_16 : decode cX9_loaves 16 = .ok (.iload_n 1, 1) := by decide +kernel
theorem dX9_loaves_17 : decode cX9_loaves 17 = .ok (.iadd, 1) := by decide +kernel
theorem dX9_loaves_18 : decode cX9_loaves 18 = .ok (.iaload, 1) := by decide +kernel
theorem dX9_loaves_19 : decode cX9_loaves 19 = .ok (.goto 5, 3) := by decide +kernel
theorem dX9_loaves_22 : decode cX9_loaves 22 = .ok (.ldc 95, 2) := by decide +kernel
theorem dX9_loaves_24 : decode cX9_loaves 24 = .ok (.ireturn, 1) := by decide +kernel
theorem dX9_why_0 : decode cX9_why 0 = .ok (.aload_n 0, 1) := by decide +kernel
theorem dX9_why_1 : decode cX9_why 1 = .ok (.iload_n 1, 1) := by decide +kernel
theorem dX9_why_2 : decode cX9_why 2 = .ok (.invokevirtual 100, 3) := by decide +kernel
theorem dX9_why_5 : decode cX9_why 5 = .ok (.ifCond .eq 22, 3) := by decide +kernel
theorem dX9_why_8 : decode cX9_why 8 = .ok (.iload_n 2, 1) := by decide +kernel
theorem dX9_why_9 : decode cX9_why 9 = .ok (.iconst 1, 1) := by decide +kernel
theorem dX9_why_10 : decode cX9_why 10 = .ok (.bipush 30, 2) := by decide +kernel
theorem dX9_why_12 : decode cX9_why 12 = .ok (.invokestatic 65, 3) := by decide +kernel
theorem dX9_why_15 : decode cX9_why 15 = .ok (.ifCond .eq 12, 3) := by decide +kernel
theorem dX9_why_18 : decode cX9_why 18 = .ok (.aload_n 0, 1) := by decide +kernel
theorem dX9_why_19 : decode cX9_why 19 = .ok (.iload_n 1, 1) := by decide +kernel
theorem dX9_why_20 : decode cX9_why 20 = .ok (.iload_n 2, 1) := by decide +kernel
theorem dX9_why_21 : decode cX9_why 21 = .ok (.invokevirtual 104, 3) := by decide +kernel
theorem dX9_why_24 : decode cX9_why 24 = .ok (.goto 5, 3) := by decide +kernel
theorem dX9_why_27 : decode cX9_why 27 = .ok (.ldc 95, 2) := by decide +kernel
theorem dX9_why_29 : decode cX9_why 29 = .ok (.ireturn, 1) := by decide +kernel
theorem dX9_wanted_0 : decode cX9_wanted 0 = .ok (.iload_n 1, 1) := by decide +kernel
theorem dX9_wanted_1 : decode cX9_wanted 1 = .ok (.iconst 0, 1) := by decide +kernel
theorem dX9_wanted_2 : decode cX9_wanted 2 = .ok (.bipush 60, 2) := by decide +kernel
theorem dX9_wanted_4 : decode cX9_wanted 4 = .ok (.invokestatic 65, 3) := by decide +kernel
theorem dX9_wanted_7 : decode cX9_wanted 7 = .ok (.ifCond .ne 6, 3) := by decide +kernel
theorem dX9_wanted_10 : decode cX9_wanted 10 = .ok (.ldc 95, 2) := by decide +kernel
theorem dX9_wanted_12 : decode cX9_wanted 12 = .ok (.ireturn, 1) := by decide +kernel
theorem dX9_wanted_13 : decode cX9_wanted 13 = .ok (.iconst 0, 1) := by decide +kernel
theorem dX9_wanted_14 : decode cX9_wanted 14 = .ok (.istore_n 2, 1) := by decide +kernel
theorem dX9_wanted_15 : decode cX9_wanted 15 = .ok (.iconst 0, 1) := by decide +kernel
theorem dX9_wanted_16 : decode cX9_wanted 16 = .ok (.istore_n 3, 1) := by decide +kernel
theorem dX9_wanted_17 : decode cX9_wanted 17 = .ok (.iload_n 3, 1) := by decide +kernel
theorem dX9_wanted_18 : decode cX9_wanted 18 = .ok (.aload_n 0, 1) := by decide +kernel
theorem dX9_wanted_19 : decode cX9_wanted 19 = .ok (.getfield 7, 3) := by decide +kernel
theorem dX9_wanted_22 : decode cX9_wanted 22 = .ok (.iconst 1, 1) := by decide +kernel
theorem dX9_wanted_23 : decode cX9_wanted 23 = .ok (.iaload, 1) := by decide +kernel
theorem dX9_wanted_24 : decode cX9_wanted 24 = .ok (.if_icmp .ge 41, 3) := by decide +kernel
theorem dX9_wanted_27 : decode cX9_wanted 27 = .ok (.iload_n 2, 1) := by decide +kernel
theorem dX9_wanted_28 : decode cX9_wanted 28 = .ok (.aload_n 0, 1) := by decide +kernel
theorem dX9_wanted_29 : decode cX9_wanted 29 = .ok (.iload_n 3, 1) := by decide +kernel
theorem dX9_wanted_30 : decode cX9_wanted 30 = .ok (.aload_n 0, 1) := by decide +kernel
theorem dX9_wanted_31 : decode cX9_wanted 31 = .ok (.getfield 7, 3) := by decide +kernel
theorem dX9_wanted_34 : decode cX9_wanted 34 = .ok (.iconst 3, 1) := by decide +kernel
theorem dX9_wanted_35 : decode cX9_wanted 35 = .ok (.iaload, 1) := by decide +kernel
theorem dX9_wanted_36 : decode cX9_wanted 36 = .ok (.iload_n 1, 1) := by decide +kernel
theorem dX9_wanted_37 : decode cX9_wanted 37 = .ok (.iadd, 1) := by decide +kernel
theorem dX9_wanted_38 : decode cX9_wanted 38 = .ok (.invokevirtual 82, 3) := by decide +kernel
theorem dX9_wanted_41 : decode cX9_wanted 41 = .ok (.ifCond .eq 15, 3) := by decide +kernel
theorem dX9_wanted_44 : decode cX9_wanted 44 = .ok (.aload_n 0, 1) := by decide +kernel
theorem dX9_wanted_45 : decode cX9_wanted 45 = .ok (.iload_n 3, 1) := by decide +kernel
theorem dX9_wanted_46 : decode cX9_wanted 46 = .ok (.iconst 1, 1) := by decide +kernel
theorem dX9_wanted_47 : decode cX9_wanted 47 = .ok (.invokevirtual 36, 3) := by decide +kernel
theorem dX9_wanted_50 : decode cX9_wanted 50 = .ok (.invokestatic 69, 3) := by decide +kernel
theorem dX9_wanted_53 : decode cX9_wanted 53 = .ok (.goto 4, 3) := by decide +kernel
theorem dX9_wanted_56 : decode cX9_wanted 56 = .ok (.iconst 0, 1) := by decide +kernel
theorem dX9_wanted_57 : decode cX9_wanted 57 = .ok (.iadd, 1) := by decide +kernel
theorem dX9_wanted_58 : decode cX9_wanted 58 = .ok (.istore_n 2, 1) := by decide +kernel
theorem dX9_wanted_59 : decode cX9_wanted 59 = .ok (.iinc 3 1, 3) := by decide +kernel
theorem dX9_wanted_62 : decode cX9_wanted 62 = .ok (.goto (-45), 3) := by decide +kernel
theorem dX9_wanted_65 : decode cX9_wanted 65 = .ok (.iload_n 2, 1) := by decide +kernel
theorem dX9_wanted_66 : decode cX9_wanted 66 = .ok (.ireturn, 1) := by decide +kernel
theorem dX9_hungry_0 : decode cX9_hungry 0 = .ok (.aload_n 0, 1) := by decide +kernel
theorem dX9_hungry_1 : decode cX9_hungry 1 = .ok (.getfield 7, 3) := by decide +kernel
theorem dX9_hungry_4 : decode cX9_hungry 4 = .ok (.aload_n 0, 1) := by decide +kernel
theorem dX9_hungry_5 : decode cX9_hungry 5 = .ok (.getfield 19, 3) := by decide +kernel
theorem dX9_hungry_8 : decode cX9_hungry 8 = .ok (.invokestatic 117, 3) := by decide +kernel
theorem dX9_hungry_11 : decode cX9_hungry 11 = .ok (.iconst 0, 1) := by decide +kernel
theorem dX9_hungry_12 : decode cX9_hungry 12 = .ok (.istore_n 1, 1) := by decide +kernel
theorem dX9_hungry_13 : decode cX9_hungry 13 = .ok (.iload_n 1, 1) := by decide +kernel
theorem dX9_hungry_14 : decode cX9_hungry 14 = .ok (.bipush 60, 2) := by decide +kernel
theorem dX9_hungry_16 : decode cX9_hungry 16 = .ok (.if_icmp .ge 30, 3) := by decide +kernel
theorem dX9_hungry_19 : decode cX9_hungry 19 = .ok (.aload_n 0, 1) := by decide +kernel
theorem dX9_hungry_20 : decode cX9_hungry 20 = .ok (.getfield 7, 3) := by decide +kernel
theorem dX9_hungry_23 : decode cX9_hungry 23 = .ok (.bipush 12, 2) := by decide +kernel
theorem dX9_hungry_25 : decode cX9_hungry 25 = .ok (.iaload, 1) := by decide +kernel
theorem dX9_hungry_26 : decode cX9_hungry 26 = .ok (.aload_n 0, 1) := by decide +kernel
theorem dX9_hungry_27 : decode cX9_hungry 27 = .ok (.getfield 19, 3) := by decide +kernel
theorem dX9_hungry_30 : decode cX9_hungry 30 = .ok (.bipush 12, 2) := by decide +kernel
theorem dX9_hungry_32 : decode cX9_hungry 32 = .ok (.iaload, 1) := by decide +kernel
theorem dX9_hungry_33 : decode cX9_hungry 33 = .ok (.if_icmp .ne 13, 3) := by decide +kernel
theorem dX9_hungry_36 : decode cX9_hungry 36 = .ok (.aload_n 0, 1) := by decide +kernel
theorem dX9_hungry_37 : decode cX9_hungry 37 = .ok (.invokevirtual 92, 3) := by decide +kernel
theorem dX9_hungry_40 : decode cX9_hungry 40 = .ok (.iinc 1 1, 3) := by decide +kernel
theorem dX9_hungry_43 : decode cX9_hungry 43 = .ok (.goto (-30), 3) := by decide +kernel
theorem dX9_hungry_46 : decode cX9_hungry 46 = .ok (.aload_n 0, 1) := by decide +kernel
theorem dX9_hungry_47 : decode cX9_hungry 47 = .ok (.getfield 7, 3) := by decide +kernel
theorem dX9_hungry_50 : decode cX9_hungry 50 = .ok (.bipush 12, 2) := by decide +kernel
theorem dX9_hungry_52 : decode cX9_hungry 52 = .ok (.iaload, 1) := by decide +kernel
theorem dX9_hungry_53 : decode cX9_hungry 53 = .ok (.aload_n 0, 1) := by decide +kernel
theorem dX9_hungry_54 : decode cX9_hungry 54 = .ok (.getfield 19, 3) := by decide +kernel
theorem dX9_hungry_57 : decode cX9_hungry 57 = .ok (.bipush 12, 2) := by decide +kernel
theorem dX9_hungry_59 : decode cX9_hungry 59 = .ok (.iaload, 1) := by decide +kernel
theorem dX9_hungry_60 : decode cX9_hungry 60 = .ok (.if_icmp .le 7, 3) := by decide +kernel
theorem dX9_hungry_63 : decode cX9_hungry 63 = .ok (.iconst 1, 1) := by decide +kernel
theorem dX9_hungry_64 : decode cX9_hungry 64 = .ok (.goto 4, 3) := by decide +kernel
theorem dX9_hungry_67 : decode cX9_hungry 67 = .ok (.iconst 0, 1) := by decide +kernel
theorem dX9_hungry_68 : decode cX9_hungry 68 = .ok (.istore_n 2, 1) := by decide +kernel
theorem dX9_hungry_69 : decode cX9_hungry 69 = .ok (.aload_n 0, 1) := by decide +kernel
theorem dX9_hungry_70 : decode cX9_hungry 70 = .ok (.getfield 19, 3) := by decide +kernel
theorem dX9_hungry_73 : decode cX9_hungry 73 = .ok (.aload_n 0, 1) := by decide +kernel
theorem dX9_hungry_74 : decode cX9_hungry 74 = .ok (.getfield 7, 3) := by decide +kernel
theorem dX9_hungry_77 : decode cX9_hungry 77 = .ok (.invokestatic 117, 3) := by decide +kernel
theorem dX9_hungry_80 : decode cX9_hungry 80 = .ok (.iload_n 2, 1) := by decide +kernel
theorem dX9_hungry_81 : decode cX9_hungry 81 = .ok (.ifCond .eq 7, 3) := by decide +kernel
theorem dX9_hungry_84 : decode cX9_hungry 84 = .ok (.iload_n 1, 1) := by decide +kernel
theorem dX9_hungry_85 : decode cX9_hungry 85 = .ok (.goto 5, 3) := by decide +kernel
theorem dX9_hungry_88 : decode cX9_hungry 88 = .ok (.ldc 40, 2) := by decide +kernel
theorem dX9_hungry_90 : decode cX9_hungry 90 = .ok (.ireturn, 1) := by decide +kernel
theorem dX9_nextMule_0 : decode cX9_nextMule 0 = .ok (.ldc 40, 2) := by decide +kernel
theorem dX9_nextMule_2 : decode cX9_nextMule 2 = .ok (.istore_n 1, 1) := by decide +kernel
theorem dX9_nextMule_3 : decode cX9_nextMule 3 = .ok (.iconst 0, 1) := by decide +kernel
theorem dX9_nextMule_4 : decode cX9_nextMule 4 = .ok (.istore_n 2, 1) := by decide +kernel
theorem dX9_nextMule_5 : decode cX9_nextMule 5 = .ok (.iload_n 2, 1) := by decide +kernel
theorem dX9_nextMule_6 : decode cX9_nextMule 6 = .ok (.aload_n 0, 1) := by decide +kernel
theorem dX9_nextMule_7 : decode cX9_nextMule 7 = .ok (.getfield 7, 3) := by decide +kernel
theorem dX9_nextMule_10 : decode cX9_nextMule 10 = .ok (.iconst 0, 1) := by decide +kernel
theorem dX9_nextMule_11 : decode cX9_nextMule 11 = .ok (.iaload, 1) := by decide +kernel
theorem dX9_nextMule_12 : decode cX9_nextMule 12 = .ok (.if_icmp .ge 85, 3) := by decide +kernel
theorem dX9_nextMule_15 : decode cX9_nextMule 15 = .ok (.aload_n 0, 1) := by decide +kernel
theorem dX9_nextMule_16 : decode cX9_nextMule 16 = .ok (.iload_n 2, 1) := by decide +kernel
theorem dX9_nextMule_17 : decode cX9_nextMule 17 = .ok (.iconst 2, 1) := by decide +kernel
theorem dX9_nextMule_18 : decode cX9_nextMule 18 = .ok (.invokevirtual 44, 3) := by decide +kernel
theorem dX9_nextMule_21 : decode cX9_nextMule 21 = .ok (.ifCond .ne 58, 3) := by decide +kernel
theorem dX9_nextMule_24 : decode cX9_nextMule 24 = .ok (.iload_n 1, 1) := by decide +kernel
theorem dX9_nextMule_25 : decode cX9_nextMule 25 = .ok (.ifCond .lt 50, 3) := by decide +kernel
theorem dX9_nextMule_28 : decode cX9_nextMule 28 = .ok (.aload_n 0, 1) := by decide +kernel
theorem dX9_nextMule_29 : decode cX9_nextMule 29 = .ok (.iload_n 2, 1) := by decide +kernel
theorem dX9_nextMule_30 : decode cX9_nextMule 30 = .ok (.iconst 0, 1) := by decide +kernel
theorem dX9_nextMule_31 : decode cX9_nextMule 31 = .ok (.invokevirtual 44, 3) := by decide +kernel
theorem dX9_nextMule_34 : decode cX9_nextMule 34 = .ok (.aload_n 0, 1) := by decide +kernel
theorem dX9_nextMule_35 : decode cX9_nextMule 35 = .ok (.iload_n 1, 1) := by decide +kernel
theorem dX9_nextMule_36 : decode cX9_nextMule 36 = .ok (.iconst 0, 1) := by decide +kernel
theorem dX9_nextMule_37 : decode cX9_nextMule 37 = .ok (.invokevirtual 44, 3) := by decide +kernel
theorem dX9_nextMule_40 : decode cX9_nextMule 40 = .ok (.if_icmp .gt 35, 3) := by decide +kernel
theorem dX9_nextMule_43 : decode cX9_nextMule 43 = .ok (.aload_n 0, 1) := by decide +kernel
theorem dX9_nextMule_44 : decode cX9_nextMule 44 = .ok (.iload_n 2, 1) := by decide +kernel
theorem dX9_nextMule_45 : decode cX9_nextMule 45 = .ok (.iconst 0, 1) := by decide +kernel
theorem dX9_nextMule_46 : decode cX9_nextMule 46 = .ok (.invokevirtual 44, 3) := by decide +kernel
theorem dX9_nextMule_49 : decode cX9_nextMule 49 = .ok (.aload_n 0, 1) := by decide +kernel
theorem dX9_nextMule_50 : decode cX9_nextMule 50 = .ok (.iload_n 1, 1) := by decide +kernel
theorem dX9_nextMule_51 : decode cX9_nextMule 51 = .ok (.iconst 0, 1) := by decide +kernel
theorem dX9_nextMule_52 : decode cX9_nextMule 52 = .ok (.invokevirtual 44, 3) := by decide +kernel
theorem dX9_nextMule_55 : decode cX9_nextMule 55 = .ok (.if_icmp .ne 24, 3) := by decide +kernel
theorem dX9_nextMule_58 : decode cX9_nextMule 58 = .ok (.aload_n 0, 1) := by decide +kernel
theorem dX9_nextMule_59 : decode cX9_nextMule 59 = .ok (.iload_n 2, 1) := by decide +kernel
theorem dX9_nextMule_60 : decode cX9_nextMule 60 = .ok (.bipush 6, 2) := by decide +kernel
theorem dX9_nextMule_62 : decode cX9_nextMule 62 = .ok (.invokevirtual 44, 3) := by decide +kernel
theorem dX9_nextMule_65 : decode cX9_nextMule 65 = .ok (.aload_n 0, 1) := by decide +kernel
theorem dX9_nextMule_66 : decode cX9_nextMule 66 = .ok (.iload_n 1, 1) := by decide +kernel
theorem dX9_nextMule_67 : decode cX9_nextMule 67 = .ok (.bipush 6, 2) := by decide +kernel
theorem dX9_nextMule_69 : decode cX9_nextMule 69 = .ok (.invokevirtual 44, 3) := by decide +kernel
theorem dX9_nextMule_72 : decode cX9_nextMule 72 = .ok (.if_icmp .ge 7, 3) := by decide +kernel
theorem dX9_nextMule_75 : decode cX9_nextMule 75 = .ok (.iconst 1, 1) := by decide +kernel
theorem dX9_nextMule_76 : decode cX9_nextMule 76 = .ok (.goto 4, 3) := by decide +kernel
theorem dX9_nextMule_79 : decode cX9_nextMule 79 = .ok (.iconst 0, 1) := by decide +kernel
theorem dX9_nextMule_80 : decode cX9_nextMule 80 = .ok (.istore_n 3, 1) := by decide +kernel
theorem dX9_nextMule_81 : decode cX9_nextMule 81 = .ok (.iload_n 3, 1) := by decide +kernel
theorem dX9_nextMule_82 : decode cX9_nextMule 82 = .ok (.ifCond .eq 7, 3) := by decide +kernel
theorem dX9_nextMule_85 : decode cX9_nextMule 85 = .ok (.iload_n 2, 1) := by decide +kernel
theorem dX9_nextMule_86 : decode cX9_nextMule 86 = .ok (.goto 4, 3) := by decide +kernel
theorem dX9_nextMule_89 : decode cX9_nextMule 89 = .ok (.iload_n 1, 1) := by decide +kernel
theorem dX9_nextMule_90 : decode cX9_nextMule 90 = .ok (.istore_n 1, 1) := by decide +kernel
theorem dX9_nextMule_91 : decode cX9_nextMule 91 = .ok (.iinc 2 1, 3) := by decide +kernel
theorem dX9_nextMule_94 : decode cX9_nextMule 94 = .ok (.goto (-89), 3) := by decide +kernel
theorem dX9_nextMule_97 : decode cX9_nextMule 97 = .ok (.iload_n 1, 1) := by decide +kernel
theorem dX9_nextMule_98 : decode cX9_nextMule 98 = .ok (.ireturn, 1) := by decide +kernel
theorem dX9_next_0 : decode cX9_next 0 = .ok (.iload_n 1, 1) := by decide +kernel
theorem dX9_next_1 : decode cX9_next 1 = .ok (.iconst 0, 1) := by decide +kernel
theorem dX9_next_2 : decode cX9_next 2 = .ok (.iconst 1, 1) := by decide +kernel
theorem dX9_next_3 : decode cX9_next 3 = .ok (.invokestatic 65, 3) := by decide +kernel
theorem dX9_next_6 : decode cX9_next 6 = .ok (.ifCond .ne 6, 3) := by decide +kernel
theorem dX9_next_9 : decode cX9_next 9 = .ok (.ldc 95, 2) := by decide +kernel
theorem dX9_next_11 : decode cX9_next 11 = .ok (.ireturn, 1) := by decide +kernel
theorem dX9_next_12 : decode cX9_next 12 = .ok (.aload_n 0, 1) := by decide +kernel
theorem dX9_next_13 : decode cX9_next 13 = .ok (.invokevirtual 121, 3) := by decide +kernel
theorem dX9_next_16 : decode cX9_next 16 = .ok (.istore_n 2, 1) := by decide +kernel
theorem dX9_next_17 : decode cX9_next 17 = .ok (.iload_n 2, 1) := by decide +kernel
theorem dX9_next_18 : decode cX9_next 18 = .ok (.ifCond .lt 7, 3) := by decide +kernel
theorem dX9_next_21 : decode cX9_next 21 = .ok (.iload_n 1, 1) := by decide +kernel
theorem dX9_next_22 : decode cX9_next 22 = .ok (.ifCond .ne 5, 3) := by decide +kernel
theorem dX9_next_25 : decode cX9_next 25 = .ok (.iload_n 2, 1) := by decide +kernel
theorem dX9_next_26 : decode cX9_next 26 = .ok (.ireturn, 1) := by decide +kernel
theorem dX9_next_27 : decode cX9_next 27 = .ok (.aload_n 0, 1) := by decide +kernel
theorem dX9_next_28 : decode cX9_next 28 = .ok (.getfield 7, 3) := by decide +kernel
theorem dX9_next_31 : decode cX9_next 31 = .ok (.bipush 6, 2) := by decide +kernel
theorem dX9_next_33 : decode cX9_next 33 = .ok (.iaload, 1) := by decide +kernel
theorem dX9_next_34 : decode cX9_next 34 = .ok (.aload_n 0, 1) := by decide +kernel
theorem dX9_next_35 : decode cX9_next 35 = .ok (.getfield 7, 3) := by decide +kernel
theorem dX9_next_38 : decode cX9_next 38 = .ok (.bipush 16, 2) := by decide +kernel
theorem dX9_next_40 : decode cX9_next 40 = .ok (.iaload, 1) := by decide +kernel
theorem dX9_next_41 : decode cX9_next 41 = .ok (.if_icmp .le 7, 3) := by decide +kernel
theorem dX9_next_44 : decode cX9_next 44 = .ok (.iconst 0, 1) := by decide +kernel
theorem dX9_next_45 : decode cX9_next 45 = .ok (.goto 26, 3) := by decide +kernel
theorem dX9_next_48 : decode cX9_next 48 = .ok (.aload_n 0, 1) := by decide +kernel
theorem dX9_next_49 : decode cX9_next 49 = .ok (.getfield 7, 3) := by decide +kernel
theorem dX9_next_52 : decode cX9_next 52 = .ok (.bipush 16, 2) := by decide +kernel
theorem dX9_next_54 : decode cX9_next 54 = .ok (.iaload, 1) := by decide +kernel
theorem dX9_next_55 : decode cX9_next 55 = .ok (.aload_n 0, 1) := by decide +kernel
theorem dX9_next_56 : decode cX9_next 56 = .ok (.getfield 7, 3) := by decide +kernel
theorem dX9_next_59 : decode cX9_next 59 = .ok (.bipush 6, 2) := by decide +kernel
theorem dX9_next_61 : decode cX9_next 61 = .ok (.iaload, 1) := by decide +kernel
theorem dX9_next_62 : decode cX9_next 62 = .ok (.isub, 1) := by decide +kernel
theorem dX9_next_63 : decode cX9_next 63 = .ok (.aload_n 0, 1) := by decide +kernel
theorem dX9_next_64 : decode cX9_next 64 = .ok (.getfield 7, 3) := by decide +kernel
theorem dX9_next_67 : decode cX9_next 67 = .ok (.bipush 15, 2) := by decide +kernel
theorem dX9_next_69 : decode cX9_next 69 = .ok (.iaload, 1) := by decide +kernel
theorem dX9_next_70 : decode cX9_next 70 = .ok (.idiv, 1) := by decide +kernel
theorem dX9_next_71 : decode cX9_next 71 = .ok (.istore_n 3, 1) := by decide +kernel
theorem dX9_next_72 : decode cX9_next 72 = .ok (.iload_n 3, 1) := by decide +kernel
theorem dX9_next_73 : decode cX9_next 73 = .ok (.aload_n 0, 1) := by decide +kernel
theorem dX9_next_74 : decode cX9_next 74 = .ok (.iload_n 2, 1) := by decide +kernel
theorem dX9_next_75 : decode cX9_next 75 = .ok (.iconst 0, 1) := by decide +kernel
theorem dX9_next_76 : decode cX9_next 76 = .ok (.invokevirtual 44, 3) := by decide +kernel
theorem dX9_next_79 : decode cX9_next 79 = .ok (.invokestatic 55, 3) := by decide +kernel
theorem dX9_next_82 : decode cX9_next 82 = .ok (.ireturn, 1) := by decide +kernel
theorem dX9_would_0 : decode cX9_would 0 = .ok (.iload_n 1, 1) := by decide +kernel
theorem dX9_would_1 : decode cX9_would 1 = .ok (.iconst 1, 1) := by decide +kernel
theorem dX9_would_2 : decode cX9_would 2 = .ok (.bipush 60, 2) := by decide +kernel
theorem dX9_would_4 : decode cX9_would 4 = .ok (.invokestatic 65, 3) := by decide +kernel
theorem dX9_would_7 : decode cX9_would 7 = .ok (.ifCond .eq 12, 3) := by decide +kernel
theorem dX9_would_10 : decode cX9_would 10 = .ok (.iload_n 2, 1) := by decide +kernel
theorem dX9_would_11 : decode cX9_would 11 = .ok (.iconst 0, 1) := by decide +kernel
theorem dX9_would_12 : decode cX9_would 12 = .ok (.iconst 3, 1) := by decide +kernel
theorem dX9_would_13 : decode cX9_would 13 = .ok (.invokestatic 65, 3) := by decide +kernel
theorem dX9_would_16 : decode cX9_would 16 = .ok (.ifCond .ne 6, 3) := by decide +kernel
theorem dX9_would_19 : decode cX9_would 19 = .ok (.ldc 95, 2) := by decide +kernel
theorem dX9_would_21 : decode cX9_would 21 = .ok (.ireturn, 1) := by decide +kernel
theorem dX9_would_22 : decode cX9_would 22 = .ok (.aload_n 0, 1) := by decide +kernel
theorem dX9_would_23 : decode cX9_would 23 = .ok (.getfield 7, 3) := by decide +kernel
theorem dX9_would_26 : decode cX9_would 26 = .ok (.aload_n 0, 1) := by decide +kernel
theorem dX9_would_27 : decode cX9_would 27 = .ok (.getfield 19, 3) := by decide +kernel
theorem dX9_would_30 : decode cX9_would 30 = .ok (.invokestatic 117, 3) := by decide +kernel
theorem dX9_would_33 : decode cX9_would 33 = .ok (.aload_n 0, 1) := by decide +kernel
theorem dX9_would_34 : decode cX9_would 34 = .ok (.iload_n 1, 1) := by decide +kernel
theorem dX9_would_35 : decode cX9_would 35 = .ok (.invokevirtual 111, 3) := by decide +kernel
theorem dX9_would_38 : decode cX9_would 38 = .ok (.istore_n 3, 1) := by decide +kernel
theorem dX9_would_39 : decode cX9_would 39 = .ok (.iload_n 2, 1) := by decide +kernel
theorem dX9_would_40 : decode cX9_would 40 = .ok (.ifCond .ne 7, 3) := by decide +kernel
theorem dX9_would_43 : decode cX9_would 43 = .ok (.iload_n 3, 1) := by decide +kernel
theorem dX9_would_44 : decode cX9_would 44 = .ok (.goto 60, 3) := by decide +kernel
theorem dX9_would_47 : decode cX9_would 47 = .ok (.iload_n 2, 1) := by decide +kernel
theorem dX9_would_48 : decode cX9_would 48 = .ok (.iconst 1, 1) := by decide +kernel
theorem dX9_would_49 : decode cX9_would 49 = .ok (.if_icmp .ne 12, 3) := by decide +kernel
theorem dX9_would_52 : decode cX9_would 52 = .ok (.aload_n 0, 1) := by decide +kernel
theorem dX9_would_53 : decode cX9_would 53 = .ok (.getfield 7, 3) := by decide +kernel
theorem dX9_would_56 : decode cX9_would 56 = .ok (.iconst 5, 1) := by decide +kernel
theorem dX9_would_57 : decode cX9_would 57 = .ok (.iaload, 1) := by decide +kernel
theorem dX9_would_58 : decode cX9_would 58 = .ok (.goto 46, 3) := by decide +kernel
theorem dX9_would_61 : decode cX9_would 61 = .ok (.iload_n 2, 1) := by decide +kernel
theorem dX9_would_62 : decode cX9_would 62 = .ok (.iconst 2, 1) := by decide +kernel
theorem dX9_would_63 : decode cX9_would 63 = .ok (.if_icmp .ne 10, 3) := by decide +kernel
theorem dX9_would_66 : decode cX9_would 66 = .ok (.aload_n 0, 1) := by decide +kernel
theorem dX9_would_67 : decode cX9_would 67 = .ok (.invokevirtual 51, 3) := by decide +kernel
theorem dX9_would_70 : decode cX9_would 70 = .ok (.goto 34, 3) := by decide +kernel
theorem dX9_would_73 : decode cX9_would 73 = .ok (.aload_n 0, 1) := by decide +kernel
theorem dX9_would_74 : decode cX9_would 74 = .ok (.getfield 7, 3) := by decide +kernel
theorem dX9_would_77 : decode cX9_would 77 = .ok (.bipush 9, 2) := by decide +kernel
theorem dX9_would_79 : decode cX9_would 79 = .ok (.iaload, 1) := by decide +kernel
theorem dX9_would_80 : decode cX9_would 80 = .ok (.aload_n 0, 1) := by decide +kernel
theorem dX9_would_81 : decode cX9_would 81 = .ok (.getfield 7, 3) := by decide +kernel
theorem dX9_would_84 : decode cX9_would 84 = .ok (.bipush 10, 2) := by decide +kernel
theorem dX9_would_86 : decode cX9_would 86 = .ok (.iaload, 1) := by decide +kernel
theorem dX9_would_87 : decode cX9_would 87 = .ok (.iadd, 1) := by decide +kernel
theorem dX9_would_88 : decode cX9_would 88 = .ok (.aload_n 0, 1) := by decide +kernel
theorem dX9_would_89 : decode cX9_would 89 = .ok (.getfield 19, 3) := by decide +kernel
theorem dX9_would_92 : decode cX9_would 92 = .ok (.bipush 9, 2) := by decide +kernel
theorem dX9_would_94 : decode cX9_would 94 = .ok (.iaload, 1) := by decide +kernel
theorem dX9_would_95 : decode cX9_would 95 = .ok (.isub, 1) := by decide +kernel
theorem dX9_would_96 : decode cX9_would 96 = .ok (.aload_n 0, 1) := by decide +kernel
theorem dX9_would_97 : decode cX9_would 97 = .ok (.getfield 19, 3) := by decide +kernel
theorem dX9_would_100 : decode cX9_would 100 = .ok (.bipush 10, 2) := by decide +kernel
theorem dX9_would_102 : decode cX9_would 102 = .ok (.iaload, 1) := by decide +kernel
theorem dX9_would_103 : decode cX9_would 103 = .ok (.isub, 1) := by decide +kernel
theorem dX9_would_104 : decode cX9_would 104 = .ok (.istore 4, 2) := by decide +kernel
theorem dX9_would_106 : decode cX9_would 106 = .ok (.aload_n 0, 1) := by decide +kernel
theorem dX9_would_107 : decode cX9_would 107 = .ok (.getfield 19, 3) := by decide +kernel
theorem dX9_would_110 : decode cX9_would 110 = .ok (.aload_n 0, 1) := by decide +kernel
theorem dX9_would_111 : decode cX9_would 111 = .ok (.getfield 7, 3) := by decide +kernel
theorem dX9_would_114 : decode cX9_would 114 = .ok (.invokestatic 117, 3) := by decide +kernel
theorem dX9_would_117 : decode cX9_would 117 = .ok (.iload 4, 2) := by decide +kernel
theorem dX9_would_119 : decode cX9_would 119 = .ok (.ireturn, 1) := by decide +kernel
theorem dX9_mean_0 : decode cX9_mean 0 = .ok (.iconst 0, 1) := by decide +kernel
theorem dX9_mean_1 : decode cX9_mean 1 = .ok (.istore_n 1, 1) := by decide +kernel
theorem dX9_mean_2 : decode cX9_mean 2 = .ok (.iconst 0, 1) := by decide +kernel
theorem dX9_mean_3 : decode cX9_mean 3 = .ok (.istore_n 2, 1) := by decide +kernel
theorem dX9_mean_4 : decode cX9_mean 4 = .ok (.iload_n 2, 1) := by decide +kernel
theorem dX9_mean_5 : decode cX9_mean 5 = .ok (.bipush 20, 2) := by decide +kernel
theorem dX9_mean_7 : decode cX9_mean 7 = .ok (.if_icmp .gt 23, 3) := by decide +kernel
theorem dX9_mean_10 : decode cX9_mean 10 = .ok (.iload_n 1, 1) := by decide +kernel
theorem dX9_mean_11 : decode cX9_mean 11 = .ok (.iload_n 2, 1) := by decide +kernel
theorem dX9_mean_12 : decode cX9_mean 12 = .ok (.aload_n 0, 1) := by decide +kernel
theorem dX9_mean_13 : decode cX9_mean 13 = .ok (.getfield 7, 3) := by decide +kernel
theorem dX9_mean_16 : decode cX9_mean 16 = .ok (.bipush 115, 2) := by decide +kernel
theorem dX9_mean_18 : decode cX9_mean 18 = .ok (.iload_n 2, 1) := by decide +kernel
theorem dX9_mean_19 : decode cX9_mean 19 = .ok (.iadd, 1) := by decide +kernel
theorem dX9_mean_20 : decode cX9_mean 20 = .ok (.iaload, 1) := by decide +kernel
theorem dX9_mean_21 : decode cX9_mean 21 = .ok (.imul, 1) := by decide +kernel
theorem dX9_mean_22 : decode cX9_mean 22 = .ok (.iadd, 1) := by decide +kernel
theorem dX9_mean_23 : decode cX9_mean 23 = .ok (.istore_n 1, 1) := by decide +kernel
theorem dX9_mean_24 : decode cX9_mean 24 = .ok (.iinc 2 1, 3) := by decide +kernel
theorem dX9_mean_27 : decode cX9_mean 27 = .ok (.goto (-23), 3) := by decide +kernel
theorem dX9_mean_30 : decode cX9_mean 30 = .ok (.aload_n 0, 1) := by decide +kernel
theorem dX9_mean_31 : decode cX9_mean 31 = .ok (.invokevirtual 51, 3) := by decide +kernel
theorem dX9_mean_34 : decode cX9_mean 34 = .ok (.istore_n 2, 1) := by decide +kernel
theorem dX9_mean_35 : decode cX9_mean 35 = .ok (.iload_n 1, 1) := by decide +kernel
theorem dX9_mean_36 : decode cX9_mean 36 = .ok (.i2f, 1) := by decide +kernel
theorem dX9_mean_37 : decode cX9_mean 37 = .ok (.iload_n 2, 1) := by decide +kernel
theorem dX9_mean_38 : decode cX9_mean 38 = .ok (.ifCond .ne 7, 3) := by decide +kernel
theorem dX9_mean_41 : decode cX9_mean 41 = .ok (.iconst 1, 1) := by decide +kernel
theorem dX9_mean_42 : decode cX9_mean 42 = .ok (.goto 4, 3) := by decide +kernel
theorem dX9_mean_45 : decode cX9_mean 45 = .ok (.iload_n 2, 1) := by decide +kernel
theorem dX9_mean_46 : decode cX9_mean 46 = .ok (.i2f, 1) := by decide +kernel
theorem dX9_mean_47 : decode cX9_mean 47 = .ok (.fdiv, 1) := by decide +kernel
theorem dX9_mean_48 : decode cX9_mean 48 = .ok (.fstore_n 3, 1) := by decide +kernel
theorem dX9_mean_49 : decode cX9_mean 49 = .ok (.iload_n 2, 1) := by decide +kernel
theorem dX9_mean_50 : decode cX9_mean 50 = .ok (.ifCond .ne 8, 3) := by decide +kernel
theorem dX9_mean_53 : decode cX9_mean 53 = .ok (.ldc 40, 2) := by decide +kernel
theorem dX9_mean_55 : decode cX9_mean 55 = .ok (.goto 7, 3) := by decide +kernel
theorem dX9_mean_58 : decode cX9_mean 58 = .ok (.fload_n 3, 1) := by decide +kernel
theorem dX9_mean_59 : decode cX9_mean 59 = .ok (.invokestatic 124, 3) := by decide +kernel
theorem dX9_mean_62 : decode cX9_mean 62 = .ok (.ireturn, 1) := by decide +kernel
theorem dX9_onTheWay_0 : decode cX9_onTheWay 0 = .ok (.iconst 0, 1) := by decide +kernel
theorem dX9_onTheWay_1 : decode cX9_onTheWay 1 = .ok (.istore_n 1, 1) := by decide +kernel
theorem dX9_onTheWay_2 : decode cX9_onTheWay 2 = .ok (.iconst 0, 1) := by decide +kernel
theorem dX9_onTheWay_3 : decode cX9_onTheWay 3 = .ok (.istore_n 2, 1) := by decide +kernel
theorem dX9_onTheWay_4 : decode cX9_onTheWay 4 = .ok (.iload_n 2, 1) := by decide +kernel
theorem dX9_onTheWay_5 : decode cX9_onTheWay 5 = .ok (.aload_n 0, 1) := by decide +kernel
theorem dX9_onTheWay_6 : decode cX9_onTheWay 6 = .ok (.getfield 7, 3) := by decide +kernel
theorem dX9_onTheWay_9 : decode cX9_onTheWay 9 = .ok (.iconst 0, 1) := by decide +kernel
theorem dX9_onTheWay_10 : decode cX9_onTheWay 10 = .ok (.iaload, 1) := by decide +kernel
theorem dX9_onTheWay_11 : decode cX9_onTheWay 11 = .ok (.if_icmp .ge 18, 3) := by decide +kernel
theorem dX9_onTheWay_14 : decode cX9_onTheWay 14 = .ok (.iload_n 1, 1) := by decide +kernel
theorem dX9_onTheWay_15 : decode cX9_onTheWay 15 = .ok (.aload_n 0, 1) := by decide +kernel
theorem dX9_onTheWay_16 : decode cX9_onTheWay 16 = .ok (.iload_n 2, 1) := by decide +kernel
theorem dX9_onTheWay_17 : decode cX9_onTheWay 17 = .ok (.iconst 4, 1) := by decide +kernel
theorem dX9_onTheWay_18 : decode cX9_onTheWay 18 = .ok (.invokevirtual 44, 3) := by decide +kernel
theorem dX9_onTheWay_21 : decode cX9_onTheWay 21 = .ok (.iadd, 1) := by decide +kernel
theorem dX9_onTheWay_22 : decode cX9_onTheWay 22 = .ok (.istore_n 1, 1) := by decide +kernel
theorem dX9_onTheWay_23 : decode cX9_onTheWay 23 = .ok (.iinc 2 1, 3) := by decide +kernel
theorem dX9_onTheWay_26 : decode cX9_onTheWay 26 = .ok (.goto (-22), 3) := by decide +kernel
theorem dX9_onTheWay_29 : decode cX9_onTheWay 29 = .ok (.iload_n 1, 1) := by decide +kernel
theorem dX9_onTheWay_30 : decode cX9_onTheWay 30 = .ok (.ireturn, 1) := by decide +kernel
theorem dX9_count_0 : decode cX9_count 0 = .ok (.iload_n 1, 1) := by decide +kernel
theorem dX9_count_1 : decode cX9_count 1 = .ok (.tableswitch 136 0 19 #[95, 95, 95, 95, 95, 95, 95, 102, 107, 112, 117, 117, 117, 117, 117, 117, 117, 117, 126, 131], 95) := by decide +kernel
theorem dX9_count_96 : decode cX9_count 96 = .ok (.aload_n 0, 1) := by decide +kernel
theorem dX9_count_97 : decode cX9_count 97 = .ok (.getfield 7, 3) := by decide +kernel
theorem dX9_count_100 : decode cX9_count 100 = .ok (.iload_n 1, 1) := by decide +kernel
theorem dX9_count_101 : decode cX9_count 101 = .ok (.iaload, 1) := by decide +kernel
theorem dX9_count_102 : decode cX9_count 102 = .ok (.ireturn, 1) := by decide +kernel
theorem dX9_count_103 : decode cX9_count 103 = .ok (.aload_n 0, 1) := by decide +kernel
theorem dX9_count_104 : decode cX9_count 104 = .ok (.invokevirtual 51, 3) := by decide +kernel
theorem dX9_count_107 : decode cX9_count 107 = .ok (.ireturn, 1) := by decide +kernel
theorem dX9_count_108 : decode cX9_count 108 = .ok (.aload_n 0, 1) := by decide +kernel
theorem dX9_count_109 : decode cX9_count 109 = .ok (.invokevirtual 76, 3) := by decide +kernel
theorem dX9_count_112 : decode cX9_count 112 = .ok (.ireturn, 1) := by decide +kernel
theorem dX9_count_113 : decode cX9_count 113 = .ok (.aload_n 0, 1) := by decide +kernel
theorem dX9_count_114 : decode cX9_count 114 = .ok (.invokevirtual 130, 3) := by decide +kernel
theorem dX9_count_117 : decode cX9_count 117 = .ok (.ireturn, 1) := by decide +kernel
theorem dX9_count_118 : decode cX9_count 118 = .ok (.aload_n 0, 1) := by decide +kernel
theorem dX9_count_119 : decode cX9_count 119 = .ok (.getfield 7, 3) := by decide +kernel
theorem dX9_count_122 : decode cX9_count 122 = .ok (.iload_n 1, 1) := by decide +kernel
theorem dX9_count_123 : decode cX9_count 123 = .ok (.iconst 3, 1) := by decide +kernel
theorem dX9_count_124 : decode cX9_count 124 = .ok (.isub, 1) := by decide +kernel
theorem dX9_count_125 : decode cX9_count 125 = .ok (.iaload, 1) := by decide +kernel
theorem dX9_count_126 : decode cX9_count 126 = .ok (.ireturn, 1) := by decide +kernel
theorem dX9_count_127 : decode cX9_count 127 = .ok (.aload_n 0, 1) := by decide +kernel
theorem dX9_count_128 : decode cX9_count 128 = .ok (.getfield 32, 3) := by decide +kernel
theorem dX9_count_131 : decode cX9_count 131 = .ok (.ireturn, 1) := by decide +kernel
theorem dX9_count_132 : decode cX9_count 132 = .ok (.aload_n 0, 1) := by decide +kernel
theorem dX9_count_133 : decode cX9_count 133 = .ok (.getfield 133, 3) := by decide +kernel
theorem dX9_count_136 : decode cX9_count 136 = .ok (.ireturn, 1) := by decide +kernel
theorem dX9_count_137 : decode cX9_count 137 = .ok (.iload_n 1, 1) := by decide +kernel
theorem dX9_count_138 : decode cX9_count 138 = .ok (.bipush 20, 2) := by decide +kernel
theorem dX9_count_140 : decode cX9_count 140 = .ok (.bipush 23, 2) := by decide +kernel
theorem dX9_count_142 : decode cX9_count 142 = .ok (.invokestatic 65, 3) := by decide +kernel
theorem dX9_count_145 : decode cX9_count 145 = .ok (.ifCond .eq 18, 3) := by decide +kernel
theorem dX9_count_148 : decode cX9_count 148 = .ok (.aload_n 0, 1) := by decide +kernel
theorem dX9_count_149 : decode cX9_count 149 = .ok (.getfield 7, 3) := by decide +kernel
theorem dX9_count_152 : decode cX9_count 152 = .ok (.bipush 15, 2) := by decide +kernel
theorem dX9_count_154 : decode cX9_count 154 = .ok (.iload_n 1, 1) := by decide +kernel
theorem dX9_count_155 : decode cX9_count 155 = .ok (.iadd, 1) := by decide +kernel
theorem dX9_count_156 : decode cX9_count 156 = .ok (.bipush 20, 2) := by decide +kernel
theorem dX9_count_158 : decode cX9_count 158 = .ok (.isub, 1) := by decide +kernel
theorem dX9_count_159 : decode cX9_count 159 = .ok (.iaload, 1) := by decide +kernel
theorem dX9_count_160 : decode cX9_count 160 = .ok (.goto 5, 3) := by decide +kernel
theorem dX9_count_163 : decode cX9_count 163 = .ok (.ldc 95, 2) := by decide +kernel
theorem dX9_count_165 : decode cX9_count 165 = .ok (.ireturn, 1) := by decide +kernel
theorem dX9_undo_0 : decode cX9_undo 0 = .ok (.aload_n 0, 1) := by decide +kernel
theorem dX9_undo_1 : decode cX9_undo 1 = .ok (.getfield 32, 3) := by decide +kernel
theorem dX9_undo_4 : decode cX9_undo 4 = .ok (.ifCond .ne 6, 3) := by decide +kernel
theorem dX9_undo_7 : decode cX9_undo 7 = .ok (.ldc 107, 2) := by decide +kernel
theorem dX9_undo_9 : decode cX9_undo 9 = .ok (.ireturn, 1) := by decide +kernel
theorem dX9_undo_10 : decode cX9_undo 10 = .ok (.aload_n 0, 1) := by decide +kernel
theorem dX9_undo_11 : decode cX9_undo 11 = .ok (.dup, 1) := by decide +kernel
theorem dX9_undo_12 : decode cX9_undo 12 = .ok (.getfield 32, 3) := by decide +kernel
theorem dX9_undo_15 : decode cX9_undo 15 = .ok (.iconst 1, 1) := by decide +kernel
theorem dX9_undo_16 : decode cX9_undo 16 = .ok (.isub, 1) := by decide +kernel
theorem dX9_undo_17 : decode cX9_undo 17 = .ok (.putfield 32, 3) := by decide +kernel
theorem dX9_undo_20 : decode cX9_undo 20 = .ok (.iconst 0, 1) := by decide +kernel
theorem dX9_undo_21 : decode cX9_undo 21 = .ok (.istore_n 1, 1) := by decide +kernel
theorem dX9_undo_22 : decode cX9_undo 22 = .ok (.iload_n 1, 1) := by decide +kernel
theorem dX9_undo_23 : decode cX9_undo 23 = .ok (.sipush 136, 3) := by decide +kernel
theorem dX9_undo_26 : decode cX9_undo 26 = .ok (.if_icmp .ge 30, 3) := by decide +kernel
theorem dX9_undo_29 : decode cX9_undo 29 = .ok (.aload_n 0, 1) := by decide +kernel
theorem dX9_undo_30 : decode cX9_undo 30 = .ok (.getfield 7, 3) := by decide +kernel
theorem dX9_undo_33 : decode cX9_undo 33 = .ok (.iload_n 1, 1) := by decide +kernel
theorem dX9_undo_34 : decode cX9_undo 34 = .ok (.aload_n 0, 1) := by decide +kernel
theorem dX9_undo_35 : decode cX9_undo 35 = .ok (.getfield 13, 3) := by decide +kernel
theorem dX9_undo_38 : decode cX9_undo 38 = .ok (.sipush 136, 3) := by decide +kernel
theorem dX9_undo_41 : decode cX9_undo 41 = .ok (.aload_n 0, 1) := by decide +kernel
theorem dX9_undo_42 : decode cX9_undo 42 = .ok (.getfield 32, 3) := by decide +kernel
theorem dX9_undo_45 : decode cX9_undo 45 = .ok (.imul, 1) := by decide +kernel
theorem dX9_undo_46 : decode cX9_undo 46 = .ok (.iload_n 1, 1) := by decide +kernel
theorem dX9_undo_47 : decode cX9_undo 47 = .ok (.iadd, 1) := by decide +kernel
theorem dX9_undo_48 : decode cX9_undo 48 = .ok (.iaload, 1) := by decide +kernel
theorem dX9_undo_49 : decode cX9_undo 49 = .ok (.iastore, 1) := by decide +kernel
theorem dX9_undo_50 : decode cX9_undo 50 = .ok (.iinc 1 1, 3) := by decide +kernel
theorem dX9_undo_53 : decode cX9_undo 53 = .ok (.goto (-31), 3) := by decide +kernel
theorem dX9_undo_56 : decode cX9_undo 56 = .ok (.aload_n 0, 1) := by decide +kernel
theorem dX9_undo_57 : decode cX9_undo 57 = .ok (.getfield 32, 3) := by decide +kernel
theorem dX9_undo_60 : decode cX9_undo 60 = .ok (.ireturn, 1) := by decide +kernel
theorem dX9_type_0 : decode cX9_type 0 = .ok (.iload_n 1, 1) := by decide +kernel
theorem dX9_type_1 : decode cX9_type 1 = .ok (.bipush 32, 2) := by decide +kernel
theorem dX9_type_3 : decode cX9_type 3 = .ok (.bipush 126, 2) := by decide +kernel
theorem dX9_type_5 : decode cX9_type 5 = .ok (.invokestatic 65, 3) := by decide +kernel
theorem dX9_type_8 : decode cX9_type 8 = .ok (.ifCond .ne 6, 3) := by decide +kernel
theorem dX9_type_11 : decode cX9_type 11 = .ok (.ldc 95, 2) := by decide +kernel
theorem dX9_type_13 : decode cX9_type 13 = .ok (.ireturn, 1) := by decide +kernel
theorem dX9_type_14 : decode cX9_type 14 = .ok (.aload_n 0, 1) := by decide +kernel
theorem dX9_type_15 : decode cX9_type 15 = .ok (.getfield 133, 3) := by decide +kernel
theorem dX9_type_18 : decode cX9_type 18 = .ok (.bipush 60, 2) := by decide +kernel
theorem dX9_type_20 : decode cX9_type 20 = .ok (.if_icmp .ne 6, 3) := by decide +kernel
theorem dX9_type_23 : decode cX9_type 23 = .ok (.ldc 96, 2) := by decide +kernel
theorem dX9_type_25 : decode cX9_type 25 = .ok (.ireturn, 1) := by decide +kernel
theorem dX9_type_26 : decode cX9_type 26 = .ok (.aload_n 0, 1) := by decide +kernel
theorem dX9_type_27 : decode cX9_type 27 = .ok (.getfield 22, 3) := by decide +kernel
theorem dX9_type_30 : decode cX9_type 30 = .ok (.aload_n 0, 1) := by decide +kernel
theorem dX9_type_31 : decode cX9_type 31 = .ok (.getfield 133, 3) := by decide +kernel
theorem dX9_type_34 : decode cX9_type 34 = .ok (.iload_n 1, 1) := by decide +kernel
theorem dX9_type_35 : decode cX9_type 35 = .ok (.iastore, 1) := by decide +kernel
theorem dX9_type_36 : decode cX9_type 36 = .ok (.aload_n 0, 1) := by decide +kernel
theorem dX9_type_37 : decode cX9_type 37 = .ok (.dup, 1) := by decide +kernel
theorem dX9_type_38 : decode cX9_type 38 = .ok (.getfield 133, 3) := by decide +kernel
theorem dX9_type_41 : decode cX9_type 41 = .ok (.iconst 1, 1) := by decide +kernel
theorem dX9_type_42 : decode cX9_type 42 = .ok (.iadd, 1) := by decide +kernel
theorem dX9_type_43 : decode cX9_type 43 = .ok (.putfield 133, 3) := by decide +kernel
theorem dX9_type_46 : decode cX9_type 46 = .ok (.aload_n 0, 1) := by decide +kernel
theorem dX9_type_47 : decode cX9_type 47 = .ok (.getfield 133, 3) := by decide +kernel
theorem dX9_type_50 : decode cX9_type 50 = .ok (.ireturn, 1) := by decide +kernel
theorem dX9_clearText_0 : decode cX9_clearText 0 = .ok (.aload_n 0, 1) := by decide +kernel
theorem dX9_clearText_1 : decode cX9_clearText 1 = .ok (.getfield 133, 3) := by decide +kernel
theorem dX9_clearText_4 : decode cX9_clearText 4 = .ok (.istore_n 1, 1) := by decide +kernel
theorem dX9_clearText_5 : decode cX9_clearText 5 = .ok (.aload_n 0, 1) := by decide +kernel
theorem dX9_clearText_6 : decode cX9_clearText 6 = .ok (.iconst 0, 1) := by decide +kernel
theorem dX9_clearText_7 : decode cX9_clearText 7 = .ok (.putfield 133, 3) := by decide +kernel
theorem dX9_clearText_10 : decode cX9_clearText 10 = .ok (.iload_n 1, 1) := by decide +kernel
theorem dX9_clearText_11 : decode cX9_clearText 11 = .ok (.ireturn, 1) := by decide +kernel
theorem dX9_isAt_0 : decode cX9_isAt 0 = .ok (.aload_n 0, 1) := by decide +kernel
theorem dX9_isAt_1 : decode cX9_isAt 1 = .ok (.getfield 136, 3) := by decide +kernel
theorem dX9_isAt_4 : decode cX9_isAt 4 = .ok (.aload_n 0, 1) := by decide +kernel
theorem dX9_isAt_5 : decode cX9_isAt 5 = .ok (.getfield 133, 3) := by decide +kernel
theorem dX9_isAt_8 : decode cX9_isAt 8 = .ok (.if_icmp .ge 24, 3) := by decide +kernel
theorem dX9_isAt_11 : decode cX9_isAt 11 = .ok (.aload_n 0, 1) := by decide +kernel
theorem dX9_isAt_12 : decode cX9_isAt 12 = .ok (.getfield 22, 3) := by decide +kernel
theorem dX9_isAt_15 : decode cX9_isAt 15 = .ok (.aload_n 0, 1) := by decide +kernel
theorem dX9_isAt_16 : decode cX9_isAt 16 = .ok (.getfield 136, 3) := by decide +kernel
theorem dX9_isAt_19 : decode cX9_isAt 19 = .ok (.iaload, 1) := by decide +kernel
theorem dX9_isAt_20 : decode cX9_isAt 20 = .ok (.iload_n 1, 1) := by decide +kernel
theorem dX9_isAt_21 : decode cX9_isAt 21 = .ok (.iload_n 2, 1) := by decide +kernel
theorem dX9_isAt_22 : decode cX9_isAt 22 = .ok (.invokestatic 65, 3) := by decide +kernel
theorem dX9_isAt_25 : decode cX9_isAt 25 = .ok (.ifCond .eq 7, 3) := by decide +kernel
theorem dX9_isAt_28 : decode cX9_isAt 28 = .ok (.iconst 1, 1) := by decide +kernel
theorem dX9_isAt_29 : decode cX9_isAt 29 = .ok (.goto 4, 3) := by decide +kernel
theorem dX9_isAt_32 : decode cX9_isAt 32 = .ok (.iconst 0, 1) := by decide +kernel
theorem dX9_isAt_33 : decode cX9_isAt 33 = .ok (.ireturn, 1) := by decide +kernel
theorem dX9_sign_0 : decode cX9_sign 0 = .ok (.aload_n 0, 1) := by decide +kernel
theorem dX9_sign_1 : decode cX9_sign 1 = .ok (.iload_n 1, 1) := by decide +kernel
theorem dX9_sign_2 : decode cX9_sign 2 = .ok (.iload_n 1, 1) := by decide +kernel
theorem dX9_sign_3 : decode cX9_sign 3 = .ok (.invokevirtual 139, 3) := by decide +kernel
theorem dX9_sign_6 : decode cX9_sign 6 = .ok (.istore_n 2, 1) := by decide +kernel
theorem dX9_sign_7 : decode cX9_sign 7 = .ok (.aload_n 0, 1) := by decide +kernel
theorem dX9_sign_8 : decode cX9_sign 8 = .ok (.dup, 1) := by decide +kernel
theorem dX9_sign_9 : decode cX9_sign 9 = .ok (.getfield 136, 3) := by decide +kernel
theorem dX9_sign_12 : decode cX9_sign 12 = .ok (.iload_n 2, 1) := by decide +kernel
theorem dX9_sign_13 : decode cX9_sign 13 = .ok (.ifCond .eq 7, 3) := by decide +kernel
theorem dX9_sign_16 : decode cX9_sign 16 = .ok (.iconst 1, 1) := by decide +kernel
theorem dX9_sign_17 : decode cX9_sign 17 = .ok (.goto 4, 3) := by decide +kernel
theorem dX9_sign_20 : decode cX9_sign 20 = .ok (.iconst 0, 1) := by decide +kernel
theorem dX9_sign_21 : decode cX9_sign 21 = .ok (.iadd, 1) := by decide +kernel
theorem dX9_sign_22 : decode cX9_sign 22 = .ok (.putfield 136, 3) := by decide +kernel
theorem dX9_sign_25 : decode cX9_sign 25 = .ok (.iload_n 2, 1) := by decide +kernel
theorem dX9_sign_26 : decode cX9_sign 26 = .ok (.ireturn, 1) := by decide +kernel
theorem dX9_numbered_0 : decode cX9_numbered 0 = .ok (.aload_n 0, 1) := by decide +kernel
theorem dX9_numbered_1 : decode cX9_numbered 1 = .ok (.getfield 136, 3) := by decide +kernel
theorem dX9_numbered_4 : decode cX9_numbered 4 = .ok (.istore_n 2, 1) := by decide +kernel
theorem dX9_numbered_5 : decode cX9_numbered 5 = .ok (.aload_n 0, 1) := by decide +kernel
theorem dX9_numbered_6 : decode cX9_numbered 6 = .ok (.getfield 25, 3) := by decide +kernel
theorem dX9_numbered_9 : decode cX9_numbered 9 = .ok (.iload_n 1, 1) := by decide +kernel
theorem dX9_numbered_10 : decode cX9_numbered 10 = .ok (.iconst 0, 1) := by decide +kernel
theorem dX9_numbered_11 : decode cX9_numbered 11 = .ok (.iastore, 1) := by decide +kernel
theorem dX9_numbered_12 : decode cX9_numbered 12 = .ok (.aload_n 0, 1) := by decide +kernel
theorem dX9_numbered_13 : decode cX9_numbered 13 = .ok (.bipush 48, 2) := by decide +kernel
theorem dX9_numbered_15 : decode cX9_numbered 15 = .ok (.bipush 57, 2) := by decide +kernel
theorem dX9_numbered_17 : decode cX9_numbered 17 = .ok (.invokevirtual 139, 3) := by decide +kernel
theorem dX9_numbered_20 : decode cX9_numbered 20 = .ok (.ifCond .eq 54, 3) := by decide +kernel
theorem dX9_numbered_23 : decode cX9_numbered 23 = .ok (.aload_n 0, 1) := by decide +kernel
theorem dX9_numbered_24 : decode cX9_numbered 24 = .ok (.getfield 136, 3) := by decide +kernel
theorem dX9_numbered_27 : decode cX9_numbered 27 = .ok (.iload_n 2, 1) := by decide +kernel
theorem dX9_numbered_28 : decode cX9_numbered 28 = .ok (.isub, 1) := by decide +kernel
theorem dX9_numbered_29 : decode cX9_numbered 29 = .ok (.iconst 3, 1) := by decide +kernel
theorem dX9_numbered_30 : decode cX9_numbered 30 = .ok (.if_icmp .ge 44, 3) := by decide +kernel
theorem dX9_numbered_33 : decode cX9_numbered 33 = .ok (.aload_n 0, 1) := by decide +kernel
theorem dX9_numbered_34 : decode cX9_numbered 34 = .ok (.getfield 25, 3) := by decide +kernel
theorem dX9_numbered_37 : decode cX9_numbered 37 = .ok (.iload_n 1, 1) := by decide +kernel
theorem dX9_numbered_38 : decode cX9_numbered 38 = .ok (.bipush 10, 2) := by decide +kernel
theorem dX9_numbered_40 : decode cX9_numbered 40 = .ok (.aload_n 0, 1) := by decide +kernel
theorem dX9_numbered_41 : decode cX9_numbered 41 = .ok (.getfield 25, 3) := by decide +kernel
theorem dX9_numbered_44 : decode cX9_numbered 44 = .ok (.iload_n 1, 1) := by decide +kernel
theorem dX9_numbered_45 : decode cX9_numbered 45 = .ok (.iaload, 1) := by decide +kernel
theorem dX9_numbered_46 : decode cX9_numbered 46 = .ok (.imul, 1) := by decide +kernel
theorem dX9_numbered_47 : decode cX9_numbered 47 = .ok (.aload_n 0, 1) := by decide +kernel
theorem dX9_numbered_48 : decode cX9_numbered 48 = .ok (.getfield 22, 3) := by decide +kernel
theorem dX9_numbered_51 : decode cX9_numbered 51 = .ok (.aload_n 0, 1) := by decide +kernel
theorem dX9_numbered_52 : decode cX9_numbered 52 = .ok (.getfield 136, 3) := by decide +kernel
theorem dX9_numbered_55 : decode cX9_numbered 55 = .ok (.iaload, 1) := by decide +kernel
theorem dX9_numbered_56 : decode cX9_numbered 56 = .ok (.iadd, 1) := by decide +kernel
theorem dX9_numbered_57 : decode cX9_numbered 57 = .ok (.bipush 48, 2) := by decide +kernel
theorem dX9_numbered_59 : decode cX9_numbered 59 = .ok (.isub, 1) := by decide +kernel
theorem dX9_numbered_60 : decode cX9_numbered 60 = .ok (.iastore, 1) := by decide +kernel
theorem dX9_numbered_61 : decode cX9_numbered 61 = .ok (.aload_n 0, 1) := by decide +kernel
theorem dX9_numbered_62 : decode cX9_numbered 62 = .ok (.dup, 1) := by decide +kernel
theorem dX9_numbered_63 : decode cX9_numbered 63 = .ok (.getfield 136, 3) := by decide +kernel
theorem dX9_numbered_66 : decode cX9_numbered 66 = .ok (.iconst 1, 1) := by decide +kernel
theorem dX9_numbered_67 : decode cX9_numbered 67 = .ok (.iadd, 1) := by decide +kernel
theorem dX9_numbered_68 : decode cX9_numbered 68 = .ok (.putfield 136, 3) := by decide +kernel
theorem dX9_numbered_71 : decode cX9_numbered 71 = .ok (.goto (-59), 3) := by decide +kernel
theorem dX9_numbered_74 : decode cX9_numbered 74 = .ok (.aload_n 0, 1) := by decide +kernel
theorem dX9_numbered_75 : decode cX9_numbered 75 = .ok (.getfield 136, 3) := by decide +kernel
theorem dX9_numbered_78 : decode cX9_numbered 78 = .ok (.iload_n 2, 1) := by decide +kernel
theorem dX9_numbered_79 : decode cX9_numbered 79 = .ok (.if_icmp .le 7, 3) := by decide +kernel
theorem dX9_numbered_82 : decode cX9_numbered 82 = .ok (.iconst 1, 1) := by decide +kernel
theorem dX9_numbered_83 : decode cX9_numbered 83 = .ok (.goto 4, 3) := by decide +kernel
theorem dX9_numbered_86 : decode cX9_numbered 86 = .ok (.iconst 0, 1) := by decide +kernel
theorem dX9_numbered_87 : decode cX9_numbered 87 = .ok (.ireturn, 1) := by decide +kernel
theorem dX9_numbersOf_0 : decode cX9_numbersOf 0 = .ok (.iload_n 0, 1) := by decide +kernel
theorem dX9_numbersOf_1 : decode cX9_numbersOf 1 = .ok (.lookupswitch 57 #[(100, 55), (103, 51), (112, 55), (115, 53), (120, 55)], 51) := by decide +kernel
theorem dX9_numbersOf_52 : decode cX9_numbersOf 52 = .ok (.iconst 3, 1) := by decide +kernel
theorem dX9_numbersOf_53 : decode cX9_numbersOf 53 = .ok (.ireturn, 1) := by decide +kernel
theorem dX9_numbersOf_54 : decode cX9_numbersOf 54 = .ok (.iconst 2, 1) := by decide +kernel
theorem dX9_numbersOf_55 : decode cX9_numbersOf 55 = .ok (.ireturn, 1) := by decide +kernel
theorem dX9_numbersOf_56 : decode cX9_numbersOf 56 = .ok (.iconst 1, 1) := by decide +kernel
theorem dX9_numbersOf_57 : decode cX9_numbersOf 57 = .ok (.ireturn, 1) := by decide +kernel
theorem dX9_numbersOf_58 : decode cX9_numbersOf 58 = .ok (.iconst 0, 1) := by decide +kernel
theorem dX9_numbersOf_59 : decode cX9_numbersOf 59 = .ok (.ireturn, 1) := by decide +kernel
theorem dX9_reads_0 : decode cX9_reads 0 = .ok (.aload_n 0, 1) := by decide +kernel
theorem dX9_reads_1 : decode cX9_reads 1 = .ok (.aload_n 0, 1) := by decide +kernel
theorem dX9_reads_2 : decode cX9_reads 2 = .ok (.bipush 33, 2) := by decide +kernel
theorem dX9_reads_4 : decode cX9_reads 4 = .ok (.bipush 126, 2) := by decide +kernel
theorem dX9_reads_6 : decode cX9_reads 6 = .ok (.invokevirtual 139, 3) := by decide +kernel
theorem dX9_reads_9 : decode cX9_reads 9 = .ok (.ifCond .eq 15, 3) := by decide +kernel
theorem dX9_reads_12 : decode cX9_reads 12 = .ok (.aload_n 0, 1) := by decide +kernel
theorem dX9_reads_13 : decode cX9_reads 13 = .ok (.getfield 22, 3) := by decide +kernel
theorem dX9_reads_16 : decode cX9_reads 16 = .ok (.aload_n 0, 1) := by decide +kernel
theorem dX9_reads_17 : decode cX9_reads 17 = .ok (.getfield 136, 3) := by decide +kernel
theorem dX9_reads_20 : decode cX9_reads 20 = .ok (.iaload, 1) := by decide +kernel
theorem dX9_reads_21 : decode cX9_reads 21 = .ok (.goto 4, 3) := by decide +kernel
theorem dX9_reads_24 : decode cX9_reads 24 = .ok (.iconst 0, 1) := by decide +kernel
theorem dX9_reads_25 : decode cX9_reads 25 = .ok (.putfield 142, 3) := by decide +kernel
theorem dX9_reads_28 : decode cX9_reads 28 = .ok (.aload_n 0, 1) := by decide +kernel
theorem dX9_reads_29 : decode cX9_reads 29 = .ok (.getfield 142, 3) := by decide +kernel
theorem dX9_reads_32 : decode cX9_reads 32 = .ok (.invokestatic 145, 3) := by decide +kernel
theorem dX9_reads_35 : decode cX9_reads 35 = .ok (.istore_n 1, 1) := by decide +kernel
theorem dX9_reads_36 : decode cX9_reads 36 = .ok (.iload_n 1, 1) := by decide +kernel
theorem dX9_reads_37 : decode cX9_reads 37 = .ok (.ifCond .ne 5, 3) := by decide +kernel
theorem dX9_reads_40 : decode cX9_reads 40 = .ok (.iconst 0, 1) := by decide +kernel
theorem dX9_reads_41 : decode cX9_reads 41 = .ok (.ireturn, 1) := by decide +kernel
theorem dX9_reads_42 : decode cX9_reads 42 = .ok (.aload_n 0, 1) := by decide +kernel
theorem dX9_reads_43 : decode cX9_reads 43 = .ok (.dup, 1) := by decide +kernel
theorem dX9_reads_44 : decode cX9_reads 44 = .ok (.getfield 136, 3) := by decide +kernel
theorem dX9_reads_47 : decode cX9_reads 47 = .ok (.iconst 1, 1) := by decide +kernel
theorem dX9_reads_48 : decode cX9_reads 48 = .ok (.iadd, 1) := by decide +kernel
theorem dX9_reads_49 : decode cX9_reads 49 = .ok (.putfield 136, 3) := by decide +kernel
theorem dX9_reads_52 : decode cX9_reads 52 = .ok (.aload_n 0, 1) := by decide +kernel
theorem dX9_reads_53 : decode cX9_reads 53 = .ok (.iconst 0, 1) := by decide +kernel
theorem dX9_reads_54 : decode cX9_reads 54 = .ok (.invokevirtual 148, 3) := by decide +kernel
theorem dX9_reads_57 : decode cX9_reads 57 = .ok (.istore_n 2, 1) := by decide +kernel
theorem dX9_reads_58 : decode cX9_reads 58 = .ok (.iconst 1, 1) := by decide +kernel
theorem dX9_reads_59 : decode cX9_reads 59 = .ok (.istore_n 3, 1) := by decide +kernel
theorem dX9_reads_60 : decode cX9_reads 60 = .ok (.iload_n 3, 1) := by decide +kernel
theorem dX9_reads_61 : decode cX9_reads 61 = .ok (.iload_n 1, 1) := by decide +kernel
theorem dX9_reads_62 : decode cX9_reads 62 = .ok (.if_icmp .ge 36, 3) := by decide +kernel
theorem dX9_reads_65 : decode cX9_reads 65 = .ok (.iload_n 2, 1) := by decide +kernel
theorem dX9_reads_66 : decode cX9_reads 66 = .ok (.ifCond .eq 32, 3) := by decide +kernel
theorem dX9_reads_69 : decode cX9_reads 69 = .ok (.aload_n 0, 1) := by decide +kernel
theorem dX9_reads_70 : decode cX9_reads 70 = .ok (.bipush 44, 2) := by decide +kernel
theorem dX9_reads_72 : decode cX9_reads 72 = .ok (.invokevirtual 151, 3) := by decide +kernel
theorem dX9_reads_75 : decode cX9_reads 75 = .ok (.ifCond .eq 15, 3) := by decide +kernel
theorem dX9_reads_78 : decode cX9_reads 78 = .ok (.aload_n 0, 1) := by decide +kernel
theorem dX9_reads_79 : decode cX9_reads 79 = .ok (.iload_n 3, 1) := by decide +kernel
theorem dX9_reads_80 : decode cX9_reads 80 = .ok (.invokevirtual 148, 3) := by decide +kernel
theorem dX9_reads_83 : decode cX9_reads 83 = .ok (.ifCond .eq 7, 3) := by decide +kernel
theorem dX9_reads_86 : decode cX9_reads 86 = .ok (.iconst 1, 1) := by decide +kernel
theorem dX9_reads_87 : decode cX9_reads 87 = .ok (.goto 4, 3) := by decide +kernel
theorem dX9_reads_90 : decode cX9_reads 90 = .ok (.iconst 0, 1) := by decide +kernel
theorem dX9_reads_91 : decode cX9_reads 91 = .ok (.istore_n 2, 1) := by decide +kernel
theorem dX9_reads_92 : decode cX9_reads 92 = .ok (.iinc 3 1, 3) := by decide +kernel
theorem dX9_reads_95 : decode cX9_reads 95 = .ok (.goto (-35), 3) := by decide +kernel
theorem dX9_reads_98 : decode cX9_reads 98 = .ok (.iload_n 2, 1) := by decide +kernel
theorem dX9_reads_99 : decode cX9_reads 99 = .ok (.ifCond .eq 16, 3) := by decide +kernel
theorem dX9_reads_102 : decode cX9_reads 102 = .ok (.aload_n 0, 1) := by decide +kernel
theorem dX9_reads_103 : decode cX9_reads 103 = .ok (.bipush 59, 2) := by decide +kernel
theorem dX9_reads_105 : decode cX9_reads 105 = .ok (.invokevirtual 151, 3) := by decide +kernel
theorem dX9_reads_108 : decode cX9_reads 108 = .ok (.ifCond .eq 7, 3) := by decide +kernel
theorem dX9_reads_111 : decode cX9_reads 111 = .ok (.iconst 1, 1) := by decide +kernel
theorem dX9_reads_112 : decode cX9_reads 112 = .ok (.goto 4, 3) := by decide +kernel
theorem dX9_reads_115 : decode cX9_reads 115 = .ok (.iconst 0, 1) := by decide +kernel
theorem dX9_reads_116 : decode cX9_reads 116 = .ok (.ireturn, 1) := by decide +kernel
theorem dX9_calls_0 : decode cX9_calls 0 = .ok (.aload_n 0, 1) := by decide +kernel
theorem dX9_calls_1 : decode cX9_calls 1 = .ok (.getfield 142, 3) := by decide +kernel
theorem dX9_calls_4 : decode cX9_calls 4 = .ok (.lookupswitch 106 #[(103, 61), (112, 95), (115, 44), (120, 84)], 44) := by decide +kernel
theorem dX9_calls_48 : decode cX9_calls 48 = .ok (.aload_n 0, 1) := by decide +kernel
theorem dX9_calls_49 : decode cX9_calls 49 = .ok (.aload_n 0, 1) := by decide +kernel
theorem dX9_calls_50 : decode cX9_calls 50 = .ok (.getfield 25, 3) := by decide +kernel
theorem dX9_calls_53 : decode cX9_calls 53 = .ok (.iconst 0, 1) := by decide +kernel
theorem dX9_calls_54 : decode cX9_calls 54 = .ok (.iaload, 1) := by decide +kernel
theorem dX9_calls_55 : decode cX9_calls 55 = .ok (.aload_n 0, 1) := by decide +kernel
theorem dX9_calls_56 : decode cX9_calls 56 = .ok (.getfield 25, 3) := by decide +kernel
theorem dX9_calls_59 : decode cX9_calls 59 = .ok (.iconst 1, 1) := by decide +kernel
theorem dX9_calls_60 : decode cX9_calls 60 = .ok (.iaload, 1) := by decide +kernel
theorem dX9_calls_61 : decode cX9_calls 61 = .ok (.invokevirtual 154, 3) := by decide +kernel
theorem dX9_calls_64 : decode cX9_calls 64 = .ok (.ireturn, 1) := by decide +kernel
theorem dX9_calls_65 : decode cX9_calls 65 = .ok (.aload_n 0, 1) := by decide +kernel
theorem dX9_calls_66 : decode cX9_calls 66 = .ok (.aload_n 0, 1) := by decide +kernel
theorem dX9_calls_67 : decode cX9_calls 67 = .ok (.getfield 25, 3) := by decide +kernel
theorem dX9_calls_70 : decode cX9_calls 70 = .ok (.iconst 0, 1) := by decide +kernel
theorem dX9_calls_71 : decode cX9_calls 71 = .ok (.iaload, 1) := by decide +kernel
theorem dX9_calls_72 : decode cX9_calls 72 = .ok (.aload_n 0, 1) := by decide +kernel
theorem dX9_calls_73 : decode cX9_calls 73 = .ok (.getfield 25, 3) := by decide +kernel
theorem dX9_calls_76 : decode cX9_calls 76 = .ok (.iconst 1, 1) := by decide +kernel
theorem dX9_calls_77 : decode cX9_calls 77 = .ok (.iaload, 1) := by decide +kernel
theorem dX9_calls_78 : decode cX9_calls 78 = .ok (.aload_n 0, 1) := by decide +kernel
theorem dX9_calls_79 : decode cX9_calls 79 = .ok (.getfield 25, 3) := by decide +kernel
theorem dX9_calls_82 : decode cX9_calls 82 = .ok (.iconst 2, 1) := by decide +kernel
theorem dX9_calls_83 : decode cX9_calls 83 = .ok (.iaload, 1) := by decide +kernel
theorem dX9_calls_84 : decode cX9_calls 84 = .ok (.invokevirtual 157, 3) := by decide +kernel
theorem dX9_calls_87 : decode cX9_calls 87 = .ok (.ireturn, 1) := by decide +kernel
theorem dX9_calls_88 : decode cX9_calls 88 = .ok (.aload_n 0, 1) := by decide +kernel
theorem dX9_calls_89 : decode cX9_calls 89 = .ok (.aload_n 0, 1) := by decide +kernel
theorem dX9_calls_90 : decode cX9_calls 90 = .ok (.getfield 25, 3) := by decide +kernel
theorem dX9_calls_93 : decode cX9_calls 93 = .ok (.iconst 0, 1) := by decide +kernel
theorem dX9_calls_94 : decode cX9_calls 94 = .ok (.iaload, 1) := by decide +kernel
theorem dX9_calls_95 : decode cX9_calls 95 = .ok (.invokevirtual 161, 3) := by decide +kernel
theorem dX9_calls_98 : decode cX9_calls 98 = .ok (.ireturn, 1) := by decide +kernel
theorem dX9_calls_99 : decode cX9_calls 99 = .ok (.aload_n 0, 1) := by decide +kernel
theorem dX9_calls_100 : decode cX9_calls 100 = .ok (.aload_n 0, 1) := by decide +kernel
theorem dX9_calls_101 : decode cX9_calls 101 = .ok (.getfield 25, 3) := by decide +kernel
theorem dX9_calls_104 : decode cX9_calls 104 = .ok (.iconst 0, 1) := by decide +kernel
theorem dX9_calls_105 : decode cX9_calls 105 = .ok (.iaload, 1) := by decide +kernel
theorem dX9_calls_106 : decode cX9_calls 106 = .ok (.invokevirtual 164, 3) := by decide +kernel
theorem dX9_calls_109 : decode cX9_calls 109 = .ok (.ireturn, 1) := by decide +kernel
theorem dX9_calls_110 : decode cX9_calls 110 = .ok (.aload_n 0, 1) := by decide +kernel
theorem dX9_calls_111 : decode cX9_calls 111 = .ok (.aload_n 0, 1) := by decide +kernel
theorem dX9_calls_112 : decode cX9_calls 112 = .ok (.getfield 25, 3) := by decide +kernel
theorem dX9_calls_115 : decode cX9_calls 115 = .ok (.iconst 0, 1) := by decide +kernel
theorem dX9_calls_116 : decode cX9_calls 116 = .ok (.iaload, 1) := by decide +kernel
theorem dX9_calls_117 : decode cX9_calls 117 = .ok (.invokevirtual 167, 3) := by decide +kernel
theorem dX9_calls_120 : decode cX9_calls 120 = .ok (.ireturn, 1) := by decide +kernel
theorem dX9_plays_0 : decode cX9_plays 0 = .ok (.aload_n 0, 1) := by decide +kernel
theorem dX9_plays_1 : decode cX9_plays 1 = .ok (.iconst 1, 1) := by decide +kernel
theorem dX9_plays_2 : decode cX9_plays 2 = .ok (.putfield 28, 3) := by decide +kernel
theorem dX9_plays_5 : decode cX9_plays 5 = .ok (.aload_n 0, 1) := by decide +kernel
theorem dX9_plays_6 : decode cX9_plays 6 = .ok (.iconst 0, 1) := by decide +kernel
theorem dX9_plays_7 : decode cX9_plays 7 = .ok (.putfield 136, 3) := by decide +kernel
theorem dX9_plays_10 : decode cX9_plays 10 = .ok (.aload_n 0, 1) := by decide +kernel
theorem dX9_plays_11 : decode cX9_plays 11 = .ok (.iconst 0, 1) := by decide +kernel
theorem dX9_plays_12 : decode cX9_plays 12 = .ok (.putfield 170, 3) := by decide +kernel
theorem dX9_plays_15 : decode cX9_plays 15 = .ok (.aload_n 0, 1) := by decide +kernel
theorem dX9_plays_16 : decode cX9_plays 16 = .ok (.iconst 0, 1) := by decide +kernel
theorem dX9_plays_17 : decode cX9_plays 17 = .ok (.putfield 173, 3) := by decide +kernel
theorem dX9_plays_20 : decode cX9_plays 20 = .ok (.iconst 1, 1) := by decide +kernel
theorem dX9_plays_21 : decode cX9_plays 21 = .ok (.istore_n 1, 1) := by decide +kernel
theorem dX9_plays_22 : decode cX9_plays 22 = .ok (.aload_n 0, 1) := by decide +kernel
theorem dX9_plays_23 : decode cX9_plays 23 = .ok (.getfield 136, 3) := by decide +kernel
theorem dX9_plays_26 : decode cX9_plays 26 = .ok (.aload_n 0, 1) := by decide +kernel
theorem dX9_plays_27 : decode cX9_plays 27 = .ok (.getfield 133, 3) := by decide +kernel
theorem dX9_plays_30 : decode cX9_plays 30 = .ok (.if_icmp .ge 94, 3) := by decide +kernel
theorem dX9_plays_33 : decode cX9_plays 33 = .ok (.iload_n 1, 1) := by decide +kernel
theorem dX9_plays_34 : decode cX9_plays 34 = .ok (.ifCond .eq 90, 3) := by decide +kernel
theorem dX9_plays_37 : decode cX9_plays 37 = .ok (.aload_n 0, 1) := by decide +kernel
theorem dX9_plays_38 : decode cX9_plays 38 = .ok (.aload_n 0, 1) := by decide +kernel
theorem dX9_plays_39 : decode cX9_plays 39 = .ok (.getfield 136, 3) := by decide +kernel
theorem dX9_plays_42 : decode cX9_plays 42 = .ok (.putfield 170, 3) := by decide +kernel
theorem dX9_plays_45 : decode cX9_plays 45 = .ok (.aload_n 0, 1) := by decide +kernel
theorem dX9_plays_46 : decode cX9_plays 46 = .ok (.invokevirtual 176, 3) := by decide +kernel
theorem dX9_plays_49 : decode cX9_plays 49 = .ok (.istore_n 2, 1) := by decide +kernel
theorem dX9_plays_50 : decode cX9_plays 50 = .ok (.iload_n 2, 1) := by decide +kernel
theorem dX9_plays_51 : decode cX9_plays 51 = .ok (.ifCond .eq 10, 3) := by decide +kernel
theorem dX9_plays_54 : decode cX9_plays 54 = .ok (.aload_n 0, 1) := by decide +kernel
theorem dX9_plays_55 : decode cX9_plays 55 = .ok (.invokevirtual 180, 3) := by decide +kernel
theorem dX9_plays_58 : decode cX9_plays 58 = .ok (.goto 4, 3) := by decide +kernel
theorem dX9_plays_61 : decode cX9_plays 61 = .ok (.iconst 0, 1) := by decide +kernel
theorem dX9_plays_62 : decode cX9_plays 62 = .ok (.istore_n 3, 1) := by decide +kernel
theorem dX9_plays_63 : decode cX9_plays 63 = .ok (.iload_n 2, 1) := by decide +kernel
theorem dX9_plays_64 : decode cX9_plays 64 = .ok (.ifCond .eq 11, 3) := by decide +kernel
theorem dX9_plays_67 : decode cX9_plays 67 = .ok (.iload_n 3, 1) := by decide +kernel
theorem dX9_plays_68 : decode cX9_plays 68 = .ok (.ifCond .lt 7, 3) := by decide +kernel
theorem dX9_plays_71 : decode cX9_plays 71 = .ok (.iconst 1, 1) := by decide +kernel
theorem dX9_plays_72 : decode cX9_plays 72 = .ok (.goto 4, 3) := by decide +kernel
theorem dX9_plays_75 : decode cX9_plays 75 = .ok (.iconst 0, 1) := by decide +kernel
theorem dX9_plays_76 : decode cX9_plays 76 = .ok (.istore_n 1, 1) := by decide +kernel
theorem dX9_plays_77 : decode cX9_plays 77 = .ok (.aload_n 0, 1) := by decide +kernel
theorem dX9_plays_78 : decode cX9_plays 78 = .ok (.iload_n 2, 1) := by decide +kernel
theorem dX9_plays_79 : decode cX9_plays 79 = .ok (.ifCond .eq 7, 3) := by decide +kernel
theorem dX9_plays_82 : decode cX9_plays 82 = .ok (.iconst 2, 1) := by decide +kernel
theorem dX9_plays_83 : decode cX9_plays 83 = .ok (.goto 4, 3) := by decide +kernel
theorem dX9_plays_86 : decode cX9_plays 86 = .ok (.iconst 1, 1) := by decide +kernel
theorem dX9_plays_87 : decode cX9_plays 87 = .ok (.putfield 183, 3) := by decide +kernel
theorem dX9_plays_90 : decode cX9_plays 90 = .ok (.aload_n 0, 1) := by decide +kernel
theorem dX9_plays_91 : decode cX9_plays 91 = .ok (.iload_n 2, 1) := by decide +kernel
theorem dX9_plays_92 : decode cX9_plays 92 = .ok (.ifCond .eq 7, 3) := by decide +kernel
theorem dX9_plays_95 : decode cX9_plays 95 = .ok (.iload_n 3, 1) := by decide +kernel
theorem dX9_plays_96 : decode cX9_plays 96 = .ok (.goto 12, 3) := by decide +kernel
theorem dX9_plays_99 : decode cX9_plays 99 = .ok (.aload_n 0, 1) := by decide +kernel
theorem dX9_plays_100 : decode cX9_plays 100 = .ok (.getfield 136, 3) := by decide +kernel
theorem dX9_plays_103 : decode cX9_plays 103 = .ok (.aload_n 0, 1) := by decide +kernel
theorem dX9_plays_104 : decode cX9_plays 104 = .ok (.getfield 170, 3) := by decide +kernel
theorem dX9_plays_107 : decode cX9_plays 107 = .ok (.isub, 1) := by decide +kernel
theorem dX9_plays_108 : decode cX9_plays 108 = .ok (.putfield 186, 3) := by decide +kernel
theorem dX9_plays_111 : decode cX9_plays 111 = .ok (.aload_n 0, 1) := by decide +kernel
theorem dX9_plays_112 : decode cX9_plays 112 = .ok (.dup, 1) := by decide +kernel
theorem dX9_plays_113 : decode cX9_plays 113 = .ok (.getfield 173, 3) := by decide +kernel
theorem dX9_plays_116 : decode cX9_plays 116 = .ok (.iconst 1, 1) := by decide +kernel
theorem dX9_plays_117 : decode cX9_plays 117 = .ok (.iadd, 1) := by decide +kernel
theorem dX9_plays_118 : decode cX9_plays 118 = .ok (.putfield 173, 3) := by decide +kernel
theorem dX9_plays_121 : decode cX9_plays 121 = .ok (.goto (-99), 3) := by decide +kernel
theorem dX9_plays_124 : decode cX9_plays 124 = .ok (.aload_n 0, 1) := by decide +kernel
theorem dX9_plays_125 : decode cX9_plays 125 = .ok (.iconst 0, 1) := by decide +kernel
theorem dX9_plays_126 : decode cX9_plays 126 = .ok (.putfield 28, 3) := by decide +kernel
theorem dX9_plays_129 : decode cX9_plays 129 = .ok (.iload_n 1, 1) := by decide +kernel
theorem dX9_plays_130 : decode cX9_plays 130 = .ok (.ireturn, 1) := by decide +kernel
theorem dX9_fault_0 : decode cX9_fault 0 = .ok (.iload_n 1, 1) := by decide +kernel
theorem dX9_fault_1 : decode cX9_fault 1 = .ok (.iconst 0, 1) := by decide +kernel
theorem dX9_fault_2 : decode cX9_fault 2 = .ok (.iconst 2, 1) := by decide +kernel
theorem dX9_fault_3 : decode cX9_fault 3 = .ok (.invokestatic 65, 3) := by decide +kernel
theorem dX9_fault_6 : decode cX9_fault 6 = .ok (.ifCond .ne 6, 3) := by decide +kernel
theorem dX9_fault_9 : decode cX9_fault 9 = .ok (.ldc 95, 2) := by decide +kernel
theorem dX9_fault_11 : decode cX9_fault 11 = .ok (.ireturn, 1) := by decide +kernel
theorem dX9_fault_12 : decode cX9_fault 12 = .ok (.aload_n 0, 1) := by decide +kernel
theorem dX9_fault_13 : decode cX9_fault 13 = .ok (.getfield 7, 3) := by decide +kernel
theorem dX9_fault_16 : decode cX9_fault 16 = .ok (.aload_n 0, 1) := by decide +kernel
theorem dX9_fault_17 : decode cX9_fault 17 = .ok (.getfield 16, 3) := by decide +kernel
theorem dX9_fault_20 : decode cX9_fault 20 = .ok (.invokestatic 117, 3) := by decide +kernel
theorem dX9_fault_23 : decode cX9_fault 23 = .ok (.aload_n 0, 1) := by decide +kernel
theorem dX9_fault_24 : decode cX9_fault 24 = .ok (.invokevirtual 189, 3) := by decide +kernel
theorem dX9_fault_27 : decode cX9_fault 27 = .ok (.istore_n 2, 1) := by decide +kernel
theorem dX9_fault_28 : decode cX9_fault 28 = .ok (.aload_n 0, 1) := by decide +kernel
theorem dX9_fault_29 : decode cX9_fault 29 = .ok (.getfield 16, 3) := by decide +kernel
theorem dX9_fault_32 : decode cX9_fault 32 = .ok (.aload_n 0, 1) := by decide +kernel
theorem dX9_fault_33 : decode cX9_fault 33 = .ok (.getfield 7, 3) := by decide +kernel
theorem dX9_fault_36 : decode cX9_fault 36 = .ok (.invokestatic 117, 3) := by decide +kernel
theorem dX9_fault_39 : decode cX9_fault 39 = .ok (.iload_n 2, 1) := by decide +kernel
theorem dX9_fault_40 : decode cX9_fault 40 = .ok (.ifCond .eq 8, 3) := by decide +kernel
theorem dX9_fault_43 : decode cX9_fault 43 = .ok (.ldc 40, 2) := by decide +kernel
theorem dX9_fault_45 : decode cX9_fault 45 = .ok (.goto 30, 3) := by decide +kernel
theorem dX9_fault_48 : decode cX9_fault 48 = .ok (.iload_n 1, 1) := by decide +kernel
theorem dX9_fault_49 : decode cX9_fault 49 = .ok (.ifCond .ne 10, 3) := by decide +kernel
theorem dX9_fault_52 : decode cX9_fault 52 = .ok (.aload_n 0, 1) := by decide +kernel
theorem dX9_fault_53 : decode cX9_fault 53 = .ok (.getfield 170, 3) := by decide +kernel
theorem dX9_fault_56 : decode cX9_fault 56 = .ok (.goto 19, 3) := by decide +kernel
theorem dX9_fault_59 : decode cX9_fault 59 = .ok (.iload_n 1, 1) := by decide +kernel
theorem dX9_fault_60 : decode cX9_fault 60 = .ok (.iconst 1, 1) := by decide +kernel
theorem dX9_fault_61 : decode cX9_fault 61 = .ok (.if_icmp .ne 10, 3) := by decide +kernel
theorem dX9_fault_64 : decode cX9_fault 64 = .ok (.aload_n 0, 1) := by decide +kernel
theorem dX9_fault_65 : decode cX9_fault 65 = .ok (.getfield 183, 3) := by decide +kernel
theorem dX9_fault_68 : decode cX9_fault 68 = .ok (.goto 7, 3) := by decide +kernel
theorem dX9_fault_71 : decode cX9_fault 71 = .ok (.aload_n 0, 1) := by decide +kernel
theorem dX9_fault_72 : decode cX9_fault 72 = .ok (.getfield 186, 3) := by decide +kernel
theorem dX9_fault_75 : decode cX9_fault 75 = .ok (.ireturn, 1) := by decide +kernel
theorem dX9_play_0 : decode cX9_play 0 = .ok (.aload_n 0, 1) := by decide +kernel
theorem dX9_play_1 : decode cX9_play 1 = .ok (.getfield 7, 3) := by decide +kernel
theorem dX9_play_4 : decode cX9_play 4 = .ok (.aload_n 0, 1) := by decide +kernel
theorem dX9_play_5 : decode cX9_play 5 = .ok (.getfield 16, 3) := by decide +kernel
theorem dX9_play_8 : decode cX9_play 8 = .ok (.invokestatic 117, 3) := by decide +kernel
theorem dX9_play_11 : decode cX9_play 11 = .ok (.aload_n 0, 1) := by decide +kernel
theorem dX9_play_12 : decode cX9_play 12 = .ok (.invokevirtual 189, 3) := by decide +kernel
theorem dX9_play_15 : decode cX9_play 15 = .ok (.istore_n 1, 1) := by decide +kernel
theorem dX9_play_16 : decode cX9_play 16 = .ok (.aload_n 0, 1) := by decide +kernel
theorem dX9_play_17 : decode cX9_play 17 = .ok (.getfield 16, 3) := by decide +kernel
theorem dX9_play_20 : decode cX9_play 20 = .ok (.aload_n 0, 1) := by decide +kernel
theorem dX9_play_21 : decode cX9_play 21 = .ok (.getfield 7, 3) := by decide +kernel
theorem dX9_play_24 : decode cX9_play 24 = .ok (.invokestatic 117, 3) := by decide +kernel
theorem dX9_play_27 : decode cX9_play 27 = .ok (.iload_n 1, 1) := by decide +kernel
theorem dX9_play_28 : decode cX9_play 28 = .ok (.ifCond .ne 6, 3) := by decide +kernel
theorem dX9_play_31 : decode cX9_play 31 = .ok (.ldc 107, 2) := by decide +kernel
theorem dX9_play_33 : decode cX9_play 33 = .ok (.ireturn, 1) := by decide +kernel
theorem dX9_play_34 : decode cX9_play 34 = .ok (.aload_n 0, 1) := by decide +kernel
theorem dX9_play_35 : decode cX9_play 35 = .ok (.invokevirtual 97, 3) := by decide +kernel
theorem dX9_play_38 : decode cX9_play 38 = .ok (.aload_n 0, 1) := by decide +kernel
theorem dX9_play_39 : decode cX9_play 39 = .ok (.invokevirtual 189, 3) := by decide +kernel
theorem dX9_play_42 : decode cX9_play 42 = .ok (.ifCond .eq 10, 3) := by decide +kernel
theorem dX9_play_45 : decode cX9_play 45 = .ok (.aload_n 0, 1) := by decide +kernel
theorem dX9_play_46 : decode cX9_play 46 = .ok (.getfield 173, 3) := by decide +kernel
theorem dX9_play_49 : decode cX9_play 49 = .ok (.goto 5, 3) := by decide +kernel
theorem dX9_play_52 : decode cX9_play 52 = .ok (.ldc 40, 2) := by decide +kernel
theorem dX9_play_54 : decode cX9_play 54 = .ok (.ireturn, 1) := by decide +kernel
theorem dL_law_0 : decode cL_law 0 = .ok (.new 7, 3) := by decide +kernel
theorem dL_law_3 : decode cL_law 3 = .ok (.dup, 1) := by decide +kernel
theorem dL_law_4 : decode cL_law 4 = .ok (.invokespecial 9, 3) := by decide +kernel
theorem dL_law_7 : decode cL_law 7 = .ok (.astore_n 1, 1) := by decide +kernel
theorem dL_law_8 : decode cL_law 8 = .ok (.new 10, 3) := by decide +kernel
theorem dL_law_11 : decode cL_law 11 = .ok (.dup, 1) := by decide +kernel
theorem dL_law_12 : decode cL_law 12 = .ok (.invokespecial 12, 3) := by decide +kernel
theorem dL_law_15 : decode cL_law 15 = .ok (.astore_n 2, 1) := by decide +kernel
theorem dL_law_16 : decode cL_law 16 = .ok (.iconst 0, 1) := by decide +kernel
theorem dL_law_17 : decode cL_law 17 = .ok (.istore_n 3, 1) := by decide +kernel
theorem dL_law_18 : decode cL_law 18 = .ok (.iload_n 3, 1) := by decide +kernel
theorem dL_law_19 : decode cL_law 19 = .ok (.aload_n 0, 1) := by decide +kernel
theorem dL_law_20 : decode cL_law 20 = .ok (.arraylength, 1) := by decide +kernel
theorem dL_law_21 : decode cL_law 21 = .ok (.iconst 4, 1) := by decide +kernel
theorem dL_law_22 : decode cL_law 22 = .ok (.isub, 1) := by decide +kernel
theorem dL_law_23 : decode cL_law 23 = .ok (.if_icmp .gt 719, 3) := by decide +kernel
theorem dL_law_26 : decode cL_law 26 = .ok (.aload_n 0, 1) := by decide +kernel
theorem dL_law_27 : decode cL_law 27 = .ok (.iload_n 3, 1) := by decide +kernel
theorem dL_law_28 : decode cL_law 28 = .ok (.iaload, 1) := by decide +kernel
theorem dL_law_29 : decode cL_law 29 = .ok (.bipush 31, 2) := by decide +kernel
theorem dL_law_31 : decode cL_law 31 = .ok (.iand, 1) := by decide +kernel
theorem dL_law_32 : decode cL_law 32 = .ok (.tableswitch 704 0 23 #[112, 145, 178, 201, 224, 267, 290, 313, 346, 379, 412, 435, 458, 491, 514, 527, 550, 583, 596, 619, 632, 655, 668, 691], 112) := by decide +kernel
theorem dL_law_144 : decode cL_law 144 = .ok (.aload_n 1, 1) := by decide +kernel
theorem dL_law_145 : decode cL_law 145 = .ok (.aload_n 0, 1) := by decide +kernel
theorem dL_law_146 : decode cL_law 146 = .ok (.iload_n 3, 1) := by decide +kernel
theorem dL_law_147 : decode cL_law 147 = .ok (.iconst 1, 1) := by decide +kernel
theorem dL_law_148 : decode cL_law 148 = .ok (.iadd, 1) := by decide +kernel
theorem dL_law_149 : decode cL_law 149 = .ok (.iaload, 1) := by decide +kernel
theorem dL_law_150 : decode cL_law 150 = .ok (.aload_n 0, 1) := by decide +kernel
theorem dL_law_151 : decode cL_law 151 = .ok (.iload_n 3, 1) := by decide +kernel
theorem dL_law_152 : decode cL_law 152 = .ok (.iconst 2, 1) := by decide +kernel
theorem dL_law_153 : decode cL_law 153 = .ok (.iadd, 1) := by decide +kernel
theorem dL_law_154 : decode cL_law 154 = .ok (.iaload, 1) := by decide +kernel
theorem dL_law_155 : decode cL_law 155 = .ok (.invokevirtual 13, 3) := by decide +kernel
theorem dL_law_158 : decode cL_law 158 = .ok (.aload_n 2, 1) := by decide +kernel
theorem dL_law_159 : decode cL_law 159 = .ok (.aload_n 0, 1) := by decide +kernel
theorem dL_law_160 : decode cL_law 160 = .ok (.iload_n 3, 1) := by decide +kernel
theorem dL_law_161 : decode cL_law 161 = .ok (.iconst 1, 1) := by decide +kernel
theorem dL_law_162 : decode cL_law 162 = .ok (.iadd, 1) := by decide +kernel
theorem dL_law_163 : decode cL_law 163 = .ok (.iaload, 1) := by decide +kernel
theorem dL_law_164 : decode cL_law 164 = .ok (.aload_n 0, 1) := by decide +kernel
theorem dL_law_165 : decode cL_law 165 = .ok (.iload_n 3, 1) := by decide +kernel
theorem dL_law_166 : decode cL_law 166 = .ok (.iconst 2, 1) := by decide +kernel
theorem dL_law_167 : decode cL_law 167 = .ok (.iadd, 1) := by decide +kernel
theorem dL_law_168 : decode cL_law 168 = .ok (.iaload, 1) := by decide +kernel
theorem dL_law_169 : decode cL_law 169 = .ok (.invokevirtual 17, 3) := by decide +kernel
theorem dL_law_172 : decode cL_law 172 = .ok (.if_icmp .eq 564, 3) := by decide +kernel
theorem dL_law_175 : decode cL_law 175 = .ok (.iconst 0, 1) := by decide +kernel
theorem dL_law_176 : decode cL_law 176 = .ok (.ireturn, 1) := by decide +kernel
theorem dL_law_177 : decode cL_law 177 = .ok (.aload_n 1, 1) := by decide +kernel
theorem dL_law_178 : decode cL_law 178 = .ok (.aload_n 0, 1) := by decide +kernel
theorem dL_law_179 : decode cL_law 179 = .ok (.iload_n 3, 1) := by decide +kernel
theorem dL_law_180 : decode cL_law 180 = .ok (.iconst 1, 1) := by decide +kernel
theorem dL_law_181 : decode cL_law 181 = .ok (.iadd, 1) := by decide +kernel
theorem dL_law_182 : decode cL_law 182 = .ok (.iaload, 1) := by decide +kernel
theorem dL_law_183 : decode cL_law 183 = .ok (.aload_n 0, 1) := by decide +kernel
theorem dL_law_184 : decode cL_law 184 = .ok (.iload_n 3, 1) := by decide +kernel
theorem dL_law_185 : decode cL_law 185 = .ok (.iconst 2, 1) := by decide +kernel
theorem dL_law_186 : decode cL_law 186 = .ok (.iadd, 1) := by decide +kernel
theorem dL_law_187 : decode cL_law 187 = .ok (.iaload, 1) := by decide +kernel
theorem dL_law_188 : decode cL_law 188 = .ok (.invokevirtual 18, 3) := by decide +kernel
theorem dL_law_191 : decode cL_law 191 = .ok (.aload_n 2, 1) := by decide +kernel
theorem dL_law_192 : decode cL_law 192 = .ok (.aload_n 0, 1) := by decide +kernel
theorem dL_law_193 : decode cL_law 193 = .ok (.iload_n 3, 1) := by decide +kernel
theorem dL_law_194 : decode cL_law 194 = .ok (.iconst 1, 1) := by decide +kernel
theorem dL_law_195 : decode cL_law 195 = .ok (.iadd, 1) := by decide +kernel
theorem dL_law_196 : decode cL_law 196 = .ok (.iaload, 1) := by decide +kernel
theorem dL_law_197 : decode cL_law 197 = .ok (.aload_n 0, 1) := by decide +kernel
theorem dL_law_198 : decode cL_law 198 = .ok (.iload_n 3, 1) := by decide +kernel
theorem dL_law_199 : decode cL_law 199 = .ok (.iconst 2, 1) := by decide +kernel
theorem dL_law_200 : decode cL_law 200 = .ok (.iadd, 1) := by decide +kernel
theorem dL_law_201 : decode cL_law 201 = .ok (.iaload, 1) := by decide +kernel
theorem dL_law_202 : decode cL_law 202 = .ok (.invokevirtual 21, 3) := by decide +kernel
theorem dL_law_205 : decode cL_law 205 = .ok (.if_icmp .eq 531, 3) := by decide +kernel
theorem dL_law_208 : decode cL_law 208 = .ok (.iconst 0, 1) := by decide +kernel
theorem dL_law_209 : decode cL_law 209 = .ok (.ireturn, 1) := by decide +kernel
theorem dL_law_210 : decode cL_law 210 = .ok (.aload_n 1, 1) := by decide +kernel
theorem dL_law_211 : decode cL_law 211 = .ok (.aload_n 0, 1) := by decide +kernel
theorem dL_law_212 : decode cL_law 212 = .ok (.iload_n 3, 1) := by decide +kernel
theorem dL_law_213 : decode cL_law 213 = .ok (.iconst 1, 1) := by decide +kernel
theorem dL_law_214 : decode cL_law 214 = .ok (.iadd, 1) := by decide +kernel
theorem dL_law_215 : decode cL_law 215 = .ok (.iaload, 1) := by decide +kernel
theorem dL_law_216 : decode cL_law 216 = .ok (.invokevirtual 22, 3) := by decide +kernel
theorem dL_law_219 : decode cL_law 219 = .ok (.aload_n 2, 1) := by decide +kernel
theorem dL_law_220 : decode cL_law 220 = .ok (.aload_n 0, 1) := by decide +kernel
theorem dL_law_221 : decode cL_law 221 = .ok (.iload_n 3, 1) := by decide +kernel
theorem dL_law_222 : decode cL_law 222 = .ok (.iconst 1, 1) := by decide +kernel
theorem dL_law_223 : decode cL_law 223 = .ok (.iadd, 1) := by decide +kernel
theorem dL_law_224 : decode cL_law 224 = .ok (.iaload, 1) := by decide +kernel
theorem dL_law_225 : decode cL_law 225 = .ok (.invokevirtual 26, 3) := by decide +kernel
theorem dL_law_228 : decode cL_law 228 = .ok (.if_icmp .eq 508, 3) := by decide +kernel
theorem dL_law_231 : decode cL_law 231 = .ok (.iconst 0, 1) := by decide +kernel
theorem dL_law_232 : decode cL_law 232 = .ok (.ireturn, 1) := by decide +kernel
theorem dL_law_233 : decode cL_law 233 = .ok (.aload_n 1, 1) := by decide +kernel
theorem dL_law_234 : decode cL_law 234 = .ok (.aload_n 0, 1) := by decide +kernel
theorem dL_law_235 : decode cL_law 235 = .ok (.iload_n 3, 1) := by decide +kernel
theorem dL_law_236 : decode cL_law 236 = .ok (.iconst 1, 1) := by decide +kernel
theorem dL_law_237 : decode cL_law 237 = .ok (.iadd, 1) := by decide +kernel
theorem dL_law_238 : decode cL_law 238 = .ok (.iaload, 1) := by decide +kernel
theorem dL_law_239 : decode cL_law 239 = .ok (.invokevirtual 27, 3) := by decide +kernel
theorem dL_law_242 : decode cL_law 242 = .ok (.aload_n 2, 1) := by decide +kernel
theorem dL_law_243 : decode cL_law 243 = .ok (.aload_n 0, 1) := by decide +kernel
theorem dL_law_244 : decode cL_law 244 = .ok (.iload_n 3, 1) := by decide +kernel
theorem dL_law_245 : decode cL_law 245 = .ok (.iconst 1, 1) := by decide +kernel
theorem dL_law_246 : decode cL_law 246 = .ok (.iadd, 1) := by decide +kernel
theorem dL_law_247 : decode cL_law 247 = .ok (.iaload, 1) := by decide +kernel
theorem dL_law_248 : decode cL_law 248 = .ok (.invokevirtual 30, 3) := by decide +kernel
theorem dL_law_251 : decode cL_law 251 = .ok (.if_icmp .eq 485, 3) := by decide +kernel
theorem dL_law_254 : decode cL_law 254 = .ok (.iconst 0, 1) := by decide +kernel
theorem dL_law_255 : decode cL_law 255 = .ok (.ireturn, 1) := by decide +kernel
theorem dL_law_256 : decode cL_law 256 = .ok (.aload_n 1, 1) := by decide +kernel
theorem dL_law_257 : decode cL_law 257 = .ok (.aload_n 0, 1) := by decide +kernel
theorem dL_law_258 : decode cL_law 258 = .ok (.iload_n 3, 1) := by decide +kernel
theorem dL_law_259 : decode cL_law 259 = .ok (.iconst 1, 1) := by decide +kernel
theorem dL_law_260 : decode cL_law 260 = .ok (.iadd, 1) := by decide +kernel
theorem dL_law_261 : decode cL_law 261 = .ok (.iaload, 1) := by decide +kernel
theorem dL_law_262 : decode cL_law 262 = .ok (.aload_n 0, 1) := by decide +kernel
theorem dL_law_263 : decode cL_law 263 = .ok (.iload_n 3, 1) := by decide +kernel
theorem dL_law_264 : decode cL_law 264 = .ok (.iconst 2, 1) := by decide +kernel
theorem dL_law_265 : decode cL_law 265 = .ok (.iadd, 1) := by decide +kernel
theorem dL_law_266 : decode cL_law 266 = .ok (.iaload, 1) := by decide +kernel
theorem dL_law_267 : decode cL_law 267 = .ok (.aload_n 0, 1) := by decide +kernel
theorem dL_law_268 : decode cL_law 268 = .ok (.iload_n 3, 1) := by decide +kernel
theorem dL_law_269 : decode cL_law 269 = .ok (.iconst 3, 1) := by decide +kernel
theorem dL_law_270 : decode cL_law 270 = .ok (.iadd, 1) := by decide +kernel
theorem dL_law_271 : decode cL_law 271 = .ok (.iaload, 1) := by decide +kernel
theorem dL_law_272 : decode cL_law 272 = .ok (.invokevirtual 31, 3) := by decide +kernel
theorem dL_law_275 : decode cL_law 275 = .ok (.aload_n 2, 1) := by decide +kernel
theorem dL_law_276 : decode cL_law 276 = .ok (.aload_n 0, 1) := by decide +kernel
theorem dL_law_277 : decode cL_law 277 = .ok (.iload_n 3, 1) := by decide +kernel
theorem dL_law_278 : decode cL_law 278 = .ok (.iconst 1, 1) := by decide +kernel
theorem dL_law_279 : decode cL_law 279 = .ok (.iadd, 1) := by decide +kernel
theorem dL_law_280 : decode cL_law 280 = .ok (.iaload, 1) := by decide +kernel
theorem dL_law_281 : decode cL_law 281 = .ok (.aload_n 0, 1) := by decide +kernel
theorem dL_law_282 : decode cL_law 282 = .ok (.iload_n 3, 1) := by decide +kernel
theorem dL_law_283 : decode cL_law 283 = .ok (.iconst 2, 1) := by decide +kernel
theorem dL_law_284 : decode cL_law 284 = .ok (.iadd, 1) := by decide +kernel
theorem dL_law_285 : decode cL_law 285 = .ok (.iaload, 1) := by decide +kernel
theorem dL_law_286 : decode cL_law 286 = .ok (.aload_n 0, 1) := by decide +kernel
theorem dL_law_287 : decode cL_law 287 = .ok (.iload_n 3, 1) := by decide +kernel
theorem dL_law_288 : decode cL_law 288 = .ok (.iconst 3, 1) := by decide +kernel
theorem dL_law_289 : decode cL_law 289 = .ok (.iadd, 1) := by decide +kernel
theorem dL_law_290 : decode cL_law 290 = .ok (.iaload, 1) := by decide +kernel
theorem dL_law_291 : decode cL_law 291 = .ok (.invokevirtual 35, 3) := by decide +kernel
theorem dL_law_294 : decode cL_law 294 = .ok (.if_icmp .eq 442, 3) := by decide +kernel
theorem dL_law_297 : decode cL_law 297 = .ok (.iconst 0, 1) := by decide +kernel
theorem dL_law_298 : decode cL_law 298 = .ok (.ireturn, 1) := by decide +kernel
theorem dL_law_299 : decode cL_law 299 = .ok (.aload_n 1, 1) := by decide +kernel
theorem dL_law_300 : decode cL_law 300 = .ok (.aload_n 0, 1) := by decide +kernel
theorem dL_law_301 : decode cL_law 301 = .ok (.iload_n 3, 1) := by decide +kernel
theorem dL_law_302 : decode cL_law 302 = .ok (.iconst 1, 1) := by decide +kernel
theorem dL_law_303 : decode cL_law 303 = .ok (.iadd, 1) := by decide +kernel
theorem dL_law_304 : decode cL_law 304 = .ok (.iaload, 1) := by decide +kernel
theorem dL_law_305 : decode cL_law 305 = .ok (.invokevirtual 36, 3) := by decide +kernel
theorem dL_law_308 : decode cL_law 308 = .ok (.aload_n 2, 1) := by decide +kernel
theorem dL_law_309 : decode cL_law 309 = .ok (.aload_n 0, 1) := by decide +kernel
theorem dL_law_310 : decode cL_law 310 = .ok (.iload_n 3, 1) := by decide +kernel
theorem dL_law_311 : decode cL_law 311 = .ok (.iconst 1, 1) := by decide +kernel
theorem dL_law_312 : decode cL_law 312 = .ok (.iadd, 1) := by decide +kernel
theorem dL_law_313 : decode cL_law 313 = .ok (.iaload, 1) := by decide +kernel
theorem dL_law_314 : decode cL_law 314 = .ok (.invokevirtual 39, 3) := by decide +kernel
theorem dL_law_317 : decode cL_law 317 = .ok (.if_icmp .eq 419, 3) := by decide +kernel
theorem dL_law_320 : decode cL_law 320 = .ok (.iconst 0, 1) := by decide +kernel
theorem dL_law_321 : decode cL_law 321 = .ok (.ireturn, 1) := by decide +kernel
theorem dL_law_322 : decode cL_law 322 = .ok (.aload_n 1, 1) := by decide +kernel
theorem dL_law_323 : decode cL_law 323 = .ok (.aload_n 0, 1) := by decide +kernel
theorem dL_law_324 : decode cL_law 324 = .ok (.iload_n 3, 1) := by decide +kernel
theorem dL_law_325 : decode cL_law 325 = .ok (.iconst 1, 1) := by decide +kernel
theorem dL_law_326 : decode cL_law 326 = .ok (.iadd, 1) := by decide +kernel
theorem dL_law_327 : decode cL_law 327 = .ok (.iaload, 1) := by decide +kernel
theorem dL_law_328 : decode cL_law 328 = .ok (.invokevirtual 40, 3) := by decide +kernel
theorem dL_law_331 : decode cL_law 331 = .ok (.aload_n 2, 1) := by decide +kernel
theorem dL_law_332 : decode cL_law 332 = .ok (.aload_n 0, 1) := by decide +kernel
theorem dL_law_333 : decode cL_law 333 = .ok (.iload_n 3, 1) := by decide +kernel
theorem dL_law_334 : decode cL_law 334 = .ok (.iconst 1, 1) := by decide +kernel
theorem dL_law_335 : decode cL_law 335 = .ok (.iadd, 1) := by decide +kernel
theorem dL_law_336 : decode cL_law 336 = .ok (.iaload, 1) := by decide +kernel
theorem dL_law_337 : decode cL_law 337 = .ok (.invokevirtual 43, 3) := by decide +kernel
theorem dL_law_340 : decode cL_law 340 = .ok (.if_icmp .eq 396, 3) := by decide +kernel
theorem dL_law_343 : decode cL_law 343 = .ok (.iconst 0, 1) := by decide +kernel
theorem dL_law_344 : decode cL_law 344 = .ok (.ireturn, 1) := by decide +kernel
theorem dL_law_345 : decode cL_law 345 = .ok (.aload_n 1, 1) := by decide +kernel
theorem dL_law_346 : decode cL_law 346 = .ok (.aload_n 0, 1) := by decide +kernel
theorem dL_law_347 : decode cL_law 347 = .ok (.iload_n 3, 1) := by decide +kernel
theorem dL_law_348 : decode cL_law 348 = .ok (.iconst 1, 1) := by decide +kernel
theorem dL_law_349 : decode cL_law 349 = .ok (.iadd, 1) := by decide +kernel
theorem dL_law_350 : decode cL_law 350 = .ok (.iaload, 1) := by decide +kernel
theorem dL_law_351 : decode cL_law 351 = .ok (.aload_n 0, 1) := by decide +kernel
theorem dL_law_352 : decode cL_law 352 = .ok (.iload_n 3, 1) := by decide +kernel
theorem dL_law_353 : decode cL_law 353 = .ok (.iconst 2, 1) := by decide +kernel
theorem dL_law_354 : decode cL_law 354 = .ok (.iadd, 1) := by decide +kernel
theorem dL_law_355 : decode cL_law 355 = .ok (.iaload, 1) := by decide +kernel
theorem dL_law_356 : decode cL_law 356 = .ok (.invokevirtual 44, 3) := by decide +kernel
theorem dL_law_359 : decode cL_law 359 = .ok (.aload_n 2, 1) := by decide +kernel
theorem dL_law_360 : decode cL_law 360 = .ok (.aload_n 0, 1) := by decide +kernel
theorem dL_law_361 : decode cL_law 361 = .ok (.iload_n 3, 1) := by decide +kernel
theorem dL_law_362 : decode cL_law 362 = .ok (.iconst 1, 1) := by decide +kernel
theorem dL_law_363 : decode cL_law 363 = .ok (.iadd, 1) := by decide +kernel
theorem dL_law_364 : decode cL_law 364 = .ok (.iaload, 1) := by decide +kernel
theorem dL_law_365 : decode cL_law 365 = .ok (.aload_n 0, 1) := by decide +kernel
theorem dL_law_366 : decode cL_law 366 = .ok (.iload_n 3, 1) := by decide +kernel
theorem dL_law_367 : decode cL_law 367 = .ok (.iconst 2, 1) := by decide +kernel
theorem dL_law_368 : decode cL_law 368 = .ok (.iadd, 1) := by decide +kernel
theorem dL_law_369 : decode cL_law 369 = .ok (.iaload, 1) := by decide +kernel
theorem dL_law_370 : decode cL_law 370 = .ok (.invokevirtual 47, 3) := by decide +kernel
theorem dL_law_373 : decode cL_law 373 = .ok (.if_icmp .eq 363, 3) := by decide +kernel
theorem dL_law_376 : decode cL_law 376 = .ok (.iconst 0, 1) := by decide +kernel
theorem dL_law_377 : decode cL_law 377 = .ok (.ireturn, 1) := by decide +kernel
theorem dL_law_378 : decode cL_law 378 = .ok (.aload_n 1, 1) := by decide +kernel
theorem dL_law_379 : decode cL_law 379 = .ok (.aload_n 0, 1) := by decide +kernel
theorem dL_law_380 : decode cL_law 380 = .ok (.iload_n 3, 1) := by decide +kernel
theorem dL_law_381 : decode cL_law 381 = .ok (.iconst 1, 1) := by decide +kernel
theorem dL_law_382 : decode cL_law 382 = .ok (.iadd, 1) := by decide +kernel
theorem dL_law_383 : decode cL_law 383 = .ok (.iaload, 1) := by decide +kernel
theorem dL_law_384 : decode cL_law 384 = .ok (.aload_n 0, 1) := by decide +kernel
theorem dL_law_385 : decode cL_law 385 = .ok (.iload_n 3, 1) := by decide +kernel
theorem dL_law_386 : decode cL_law 386 = .ok (.iconst 2, 1) := by decide +kernel
theorem dL_law_387 : decode cL_law 387 = .ok (.iadd, 1) := by decide +kernel
theorem dL_law_388 : decode cL_law 388 = .ok (.iaload, 1) := by decide +kernel
theorem dL_law_389 : decode cL_law 389 = .ok (.invokevirtual 48, 3) := by decide +kernel
theorem dL_law_392 : decode cL_law 392 = .ok (.aload_n 2, 1) := by decide +kernel
theorem dL_law_393 : decode cL_law 393 = .ok (.aload_n 0, 1) := by decide +kernel
theorem dL_law_394 : decode cL_law 394 = .ok (.iload_n 3, 1) := by decide +kernel
theorem dL_law_395 : decode cL_law 395 = .ok (.iconst 1, 1) := by decide +kernel
theorem dL_law_396 : decode cL_law 396 = .ok (.iadd, 1) := by decide +kernel
theorem dL_law_397 : decode cL_law 397 = .ok (.iaload, 1) := by decide +kernel
theorem dL_law_398 : decode cL_law 398 = .ok (.aload_n 0, 1) := by decide +kernel
theorem dL_law_399 : decode cL_law 399 = .ok (.iload_n 3, 1) := by decide +kernel
theorem dL_law_400 : decode cL_law 400 = .ok (.iconst 2, 1) := by decide +kernel
theorem dL_law_401 : decode cL_law 401 = .ok (.iadd, 1) := by decide +kernel
theorem dL_law_402 : decode cL_law 402 = .ok (.iaload, 1) := by decide +kernel
theorem dL_law_403 : decode cL_law 403 = .ok (.invokevirtual 51, 3) := by decide +kernel
theorem dL_law_406 : decode cL_law 406 = .ok (.if_icmp .eq 330, 3) := by decide +kernel
theorem dL_law_409 : decode cL_law 409 = .ok (.iconst 0, 1) := by decide +kernel
theorem dL_law_410 : decode cL_law 410 = .ok (.ireturn, 1) := by decide +kernel
theorem dL_law_411 : decode cL_law 411 = .ok (.aload_n 1, 1) := by decide +kernel
theorem dL_law_412 : decode cL_law 412 = .ok (.aload_n 0, 1) := by decide +kernel
theorem dL_law_413 : decode cL_law 413 = .ok (.iload_n 3, 1) := by decide +kernel
theorem dL_law_414 : decode cL_law 414 = .ok (.iconst 1, 1) := by decide +kernel
theorem dL_law_415 : decode cL_law 415 = .ok (.iadd, 1) := by decide +kernel
theorem dL_law_416 : decode cL_law 416 = .ok (.iaload, 1) := by decide +kernel
theorem dL_law_417 : decode cL_law 417 = .ok (.aload_n 0, 1) := by decide +kernel
theorem dL_law_418 : decode cL_law 418 = .ok (.iload_n 3, 1) := by decide +kernel
theorem dL_law_419 : decode cL_law 419 = .ok (.iconst 2, 1) := by decide +kernel
theorem dL_law_420 : decode cL_law 420 = .ok (.iadd, 1) := by decide +kernel
theorem dL_law_421 : decode cL_law 421 = .ok (.iaload, 1) := by decide +kernel
theorem dL_law_422 : decode cL_law 422 = .ok (.invokevirtual 52, 3) := by decide +kernel
theorem dL_law_425 : decode cL_law 425 = .ok (.aload_n 2, 1) := by decide +kernel
theorem dL_law_426 : decode cL_law 426 = .ok (.aload_n 0, 1) := by decide +kernel
theorem dL_law_427 : decode cL_law 427 = .ok (.iload_n 3, 1) := by decide +kernel
theorem dL_law_428 : decode cL_law 428 = .ok (.iconst 1, 1) := by decide +kernel
theorem dL_law_429 : decode cL_law 429 = .ok (.iadd, 1) := by decide +kernel
theorem dL_law_430 : decode cL_law 430 = .ok (.iaload, 1) := by decide +kernel
theorem dL_law_431 : decode cL_law 431 = .ok (.aload_n 0, 1) := by decide +kernel
theorem dL_law_432 : decode cL_law 432 = .ok (.iload_n 3, 1) := by decide +kernel
theorem dL_law_433 : decode cL_law 433 = .ok (.iconst 2, 1) := by decide +kernel
theorem dL_law_434 : decode cL_law 434 = .ok (.iadd, 1) := by decide +kernel
theorem dL_law_435 : decode cL_law 435 = .ok (.iaload, 1) := by decide +kernel
theorem dL_law_436 : decode cL_law 436 = .ok (.invokevirtual 55, 3) := by decide +kernel
theorem dL_law_439 : decode cL_law 439 = .ok (.if_icmp .eq 297, 3) := by decide +kernel
theorem dL_law_442 : decode cL_law 442 = .ok (.iconst 0, 1) := by decide +kernel
theorem dL_law_443 : decode cL_law 443 = .ok (.ireturn, 1) := by decide +kernel
theorem dL_law_444 : decode cL_law 444 = .ok (.aload_n 1, 1) := by decide +kernel
theorem dL_law_445 : decode cL_law 445 = .ok (.aload_n 0, 1) := by decide +kernel
theorem dL_law_446 : decode cL_law 446 = .ok (.iload_n 3, 1) := by decide +kernel
theorem dL_law_447 : decode cL_law 447 = .ok (.iconst 1, 1) := by decide +kernel
theorem dL_law_448 : decode cL_law 448 = .ok (.iadd, 1) := by decide +kernel
theorem dL_law_449 : decode cL_law 449 = .ok (.iaload, 1) := by decide +kernel
theorem dL_law_450 : decode cL_law 450 = .ok (.invokevirtual 56, 3) := by decide +kernel
theorem dL_law_453 : decode cL_law 453 = .ok (.aload_n 2, 1) := by decide +kernel
theorem dL_law_454 : decode cL_law 454 = .ok (.aload_n 0, 1) := by decide +kernel
theorem dL_law_455 : decode cL_law 455 = .ok (.iload_n 3, 1) := by decide +kernel
theorem dL_law_456 : decode cL_law 456 = .ok (.iconst 1, 1) := by decide +kernel
theorem dL_law_457 : decode cL_law 457 = .ok (.iadd, 1) := by decide +kernel
theorem dL_law_458 : decode cL_law 458 = .ok (.iaload, 1) := by decide +kernel
theorem dL_law_459 : decode cL_law 459 = .ok (.invokevirtual 59, 3) := by decide +kernel
theorem dL_law_462 : decode cL_law 462 = .ok (.if_icmp .eq 274, 3) := by decide +kernel
theorem dL_law_465 : decode cL_law 465 = .ok (.iconst 0, 1) := by decide +kernel
theorem dL_law_466 : decode cL_law 466 = .ok (.ireturn, 1) := by decide +kernel
theorem dL_law_467 : decode cL_law 467 = .ok (.aload_n 1, 1) := by decide +kernel
theorem dL_law_468 : decode cL_law 468 = .ok (.aload_n 0, 1) := by decide +kernel
theorem dL_law_469 : decode cL_law 469 = .ok (.iload_n 3, 1) := by decide +kernel
theorem dL_law_470 : decode cL_law 470 = .ok (.iconst 1, 1) := by decide +kernel
theorem dL_law_471 : decode cL_law 471 = .ok (.iadd, 1) := by decide +kernel
theorem dL_law_472 : decode cL_law 472 = .ok (.iaload, 1) := by decide +kernel
theorem dL_law_473 : decode cL_law 473 = .ok (.invokevirtual 60, 3) := by decide +kernel
theorem dL_law_476 : decode cL_law 476 = .ok (.aload_n 2, 1) := by decide +kernel
theorem dL_law_477 : decode cL_law 477 = .ok (.aload_n 0, 1) := by decide +kernel
theorem dL_law_478 : decode cL_law 478 = .ok (.iload_n 3, 1) := by decide +kernel
theorem dL_law_479 : decode cL_law 479 = .ok (.iconst 1, 1) := by decide +kernel
theorem dL_law_480 : decode cL_law 480 = .ok (.iadd, 1) := by decide +kernel
theorem dL_law_481 : decode cL_law 481 = .ok (.iaload, 1) := by decide +kernel
theorem dL_law_482 : decode cL_law 482 = .ok (.invokevirtual 63, 3) := by decide +kernel
theorem dL_law_485 : decode cL_law 485 = .ok (.if_icmp .eq 251, 3) := by decide +kernel
theorem dL_law_488 : decode cL_law 488 = .ok (.iconst 0, 1) := by decide +kernel
theorem dL_law_489 : decode cL_law 489 = .ok (.ireturn, 1) := by decide +kernel
theorem dL_law_490 : decode cL_law 490 = .ok (.aload_n 1, 1) := by decide +kernel
theorem dL_law_491 : decode cL_law 491 = .ok (.aload_n 0, 1) := by decide +kernel
theorem dL_law_492 : decode cL_law 492 = .ok (.iload_n 3, 1) := by decide +kernel
theorem dL_law_493 : decode cL_law 493 = .ok (.iconst 1, 1) := by decide +kernel
theorem dL_law_494 : decode cL_law 494 = .ok (.iadd, 1) := by decide +kernel
theorem dL_law_495 : decode cL_law 495 = .ok (.iaload, 1) := by decide +kernel
theorem dL_law_496 : decode cL_law 496 = .ok (.aload_n 0, 1) := by decide +kernel
theorem dL_law_497 : decode cL_law 497 = .ok (.iload_n 3, 1) := by decide +kernel
theorem dL_law_498 : decode cL_law 498 = .ok (.iconst 2, 1) := by decide +kernel
theorem dL_law_499 : decode cL_law 499 = .ok (.iadd, 1) := by decide +kernel
theorem dL_law_500 : decode cL_law 500 = .ok (.iaload, 1) := by decide +kernel
theorem dL_law_501 : decode cL_law 501 = .ok (.invokevirtual 64, 3) := by decide +kernel
theorem dL_law_504 : decode cL_law 504 = .ok (.aload_n 2, 1) := by decide +kernel
theorem dL_law_505 : decode cL_law 505 = .ok (.aload_n 0, 1) := by decide +kernel
theorem dL_law_506 : decode cL_law 506 = .ok (.iload_n 3, 1) := by decide +kernel
theorem dL_law_507 : decode cL_law 507 = .ok (.iconst 1, 1) := by decide +kernel
theorem dL_law_508 : decode cL_law 508 = .ok (.iadd, 1) := by decide +kernel
theorem dL_law_509 : decode cL_law 509 = .ok (.iaload, 1) := by decide +kernel
theorem dL_law_510 : decode cL_law 510 = .ok (.aload_n 0, 1) := by decide +kernel
theorem dL_law_511 : decode cL_law 511 = .ok (.iload_n 3, 1) := by decide +kernel
theorem dL_law_512 : decode cL_law 512 = .ok (.iconst 2, 1) := by decide +kernel
theorem dL_law_513 : decode cL_law 513 = .ok (.iadd, 1) := by decide +kernel
theorem dL_law_514 : decode cL_law 514 = .ok (.iaload, 1) := by decide +kernel
theorem dL_law_515 : decode cL_law 515 = .ok (.invokevirtual 67, 3) := by decide +kernel
theorem dL_law_518 : decode cL_law 518 = .ok (.if_icmp .eq 218, 3) := by decide +kernel
theorem dL_law_521 : decode cL_law 521 = .ok (.iconst 0, 1) := by decide +kernel
theorem dL_law_522 : decode cL_law 522 = .ok (.ireturn, 1) := by decide +kernel
theorem dL_law_523 : decode cL_law 523 = .ok (.aload_n 1, 1) := by decide +kernel
theorem dL_law_524 : decode cL_law 524 = .ok (.aload_n 0, 1) := by decide +kernel
theorem dL_law_525 : decode cL_law 525 = .ok (.iload_n 3, 1) := by decide +kernel
theorem dL_law_526 : decode cL_law 526 = .ok (.iconst 1, 1) := by decide +kernel
theorem dL_law_527 : decode cL_law 527 = .ok (.iadd, 1) := by decide +kernel
theorem dL_law_528 : decode cL_law 528 = .ok (.iaload, 1) := by decide +kernel
theorem dL_law_529 : decode cL_law 529 = .ok (.invokevirtual 68, 3) := by decide +kernel
theorem dL_law_532 : decode cL_law 532 = .ok (.aload_n 2, 1) := by decide +kernel
theorem dL_law_533 : decode cL_law 533 = .ok (.aload_n 0, 1) := by decide +kernel
theorem dL_law_534 : decode cL_law 534 = .ok (.iload_n 3, 1) := by decide +kernel
theorem dL_law_535 : decode cL_law 535 = .ok (.iconst 1, 1) := by decide +kernel
theorem dL_law_536 : decode cL_law 536 = .ok (.iadd, 1) := by decide +kernel
theorem dL_law_537 : decode cL_law 537 = .ok (.iaload, 1) := by decide +kernel
theorem dL_law_538 : decode cL_law 538 = .ok (.invokevirtual 71, 3) := by decide +kernel
theorem dL_law_541 : decode cL_law 541 = .ok (.if_icmp .eq 195, 3) := by decide +kernel
theorem dL_law_544 : decode cL_law 544 = .ok (.iconst 0, 1) := by decide +kernel
theorem dL_law_545 : decode cL_law 545 = .ok (.ireturn, 1) := by decide +kernel
theorem dL_law_546 : decode cL_law 546 = .ok (.aload_n 1, 1) := by decide +kernel
theorem dL_law_547 : decode cL_law 547 = .ok (.invokevirtual 72, 3) := by decide +kernel
theorem dL_law_550 : decode cL_law 550 = .ok (.aload_n 2, 1) := by decide +kernel
theorem dL_law_551 : decode cL_law 551 = .ok (.invokevirtual 76, 3) := by decide +kernel
theorem dL_law_554 : decode cL_law 554 = .ok (.if_icmp .eq 182, 3) := by decide +kernel
theorem dL_law_557 : decode cL_law 557 = .ok (.iconst 0, 1) := by decide +kernel
theorem dL_law_558 : decode cL_law 558 = .ok (.ireturn, 1) := by decide +kernel
theorem dL_law_559 : decode cL_law 559 = .ok (.aload_n 1, 1) := by decide +kernel
theorem dL_law_560 : decode cL_law 560 = .ok (.aload_n 0, 1) := by decide +kernel
theorem dL_law_561 : decode cL_law 561 = .ok (.iload_n 3, 1) := by decide +kernel
theorem dL_law_562 : decode cL_law 562 = .ok (.iconst 1, 1) := by decide +kernel
theorem dL_law_563 : decode cL_law 563 = .ok (.iadd, 1) := by decide +kernel
theorem dL_law_564 : decode cL_law 564 = .ok (.iaload, 1) := by decide +kernel
theorem dL_law_565 : decode cL_law 565 = .ok (.invokevirtual 77, 3) := by decide +kernel
theorem dL_law_568 : decode cL_law 568 = .ok (.aload_n 2, 1) := by decide +kernel
theorem dL_law_569 : decode cL_law 569 = .ok (.aload_n 0, 1) := by decide +kernel
theorem dL_law_570 : decode cL_law 570 = .ok (.iload_n 3, 1) := by decide +kernel
theorem dL_law_571 : decode cL_law 571 = .ok (.iconst 1, 1) := by decide +kernel
theorem dL_law_572 : decode cL_law 572 = .ok (.iadd, 1) := by decide +kernel
theorem dL_law_573 : decode cL_law 573 = .ok (.iaload, 1) := by decide +kernel
theorem dL_law_574 : decode cL_law 574 = .ok (.invokevirtual 80, 3) := by decide +kernel
theorem dL_law_577 : decode cL_law 577 = .ok (.if_icmp .eq 159, 3) := by decide +kernel
theorem dL_law_580 : decode cL_law 580 = .ok (.iconst 0, 1) := by decide +kernel
theorem dL_law_581 : decode cL_law 581 = .ok (.ireturn, 1) := by decide +kernel
theorem dL_law_582 : decode cL_law 582 = .ok (.aload_n 1, 1) := by decide +kernel
theorem dL_law_583 : decode cL_law 583 = .ok (.aload_n 0, 1) := by decide +kernel
theorem dL_law_584 : decode cL_law 584 = .ok (.iload_n 3, 1) := by decide +kernel
theorem dL_law_585 : decode cL_law 585 = .ok (.iconst 1, 1) := by decide +kernel
theorem dL_law_586 : decode cL_law 586 = .ok (.iadd, 1) := by decide +kernel
theorem dL_law_587 : decode cL_law 587 = .ok (.iaload, 1) := by decide +kernel
theorem dL_law_588 : decode cL_law 588 = .ok (.aload_n 0, 1) := by decide +kernel
theorem dL_law_589 : decode cL_law 589 = .ok (.iload_n 3, 1) := by decide +kernel
theorem dL_law_590 : decode cL_law 590 = .ok (.iconst 2, 1) := by decide +kernel
theorem dL_law_591 : decode cL_law 591 = .ok (.iadd, 1) := by decide +kernel
theorem dL_law_592 : decode cL_law 592 = .ok (.iaload, 1) := by decide +kernel
theorem dL_law_593 : decode cL_law 593 = .ok (.invokevirtual 81, 3) := by decide +kernel
theorem dL_law_596 : decode cL_law 596 = .ok (.aload_n 2, 1) := by decide +kernel
theorem dL_law_597 : decode cL_law 597 = .ok (.aload_n 0, 1) := by decide +kernel
theorem dL_law_598 : decode cL_law 598 = .ok (.iload_n 3, 1) := by decide +kernel
theorem dL_law_599 : decode cL_law 599 = .ok (.iconst 1, 1) := by decide +kernel
theorem dL_law_600 : decode cL_law 600 = .ok (.iadd, 1) := by decide +kernel
theorem dL_law_601 : decode cL_law 601 = .ok (.iaload, 1) := by decide +kernel
theorem dL_law_602 : decode cL_law 602 = .ok (.aload_n 0, 1) := by decide +kernel
theorem dL_law_603 : decode cL_law 603 = .ok (.iload_n 3, 1) := by decide +kernel
theorem dL_law_604 : decode cL_law 604 = .ok (.iconst 2, 1) := by decide +kernel
theorem dL_law_605 : decode cL_law 605 = .ok (.iadd, 1) := by decide +kernel
theorem dL_law_606 : decode cL_law 606 = .ok (.iaload, 1) := by decide +kernel
theorem dL_law_607 : decode cL_law 607 = .ok (.invokevirtual 84, 3) := by decide +kernel
theorem dL_law_610 : decode cL_law 610 = .ok (.if_icmp .eq 126, 3) := by decide +kernel
theorem dL_law_613 : decode cL_law 613 = .ok (.iconst 0, 1) := by decide +kernel
theorem dL_law_614 : decode cL_law 614 = .ok (.ireturn, 1) := by decide +kernel
theorem dL_law_615 : decode cL_law 615 = .ok (.aload_n 1, 1) := by decide +kernel
theorem dL_law_616 : decode cL_law 616 = .ok (.invokevirtual 85, 3) := by decide +kernel
theorem dL_law_619 : decode cL_law 619 = .ok (.aload_n 2, 1) := by decide +kernel
theorem dL_law_620 : decode cL_law 620 = .ok (.invokevirtual 88, 3) := by decide +kernel
theorem dL_law_623 : decode cL_law 623 = .ok (.if_icmp .eq 113, 3) := by decide +kernel
theorem dL_law_626 : decode cL_law 626 = .ok (.iconst 0, 1) := by decide +kernel
theorem dL_law_627 : decode cL_law 627 = .ok (.ireturn, 1) := by decide +kernel
theorem dL_law_628 : decode cL_law 628 = .ok (.aload_n 1, 1) := by decide +kernel
theorem dL_law_629 : decode cL_law 629 = .ok (.aload_n 0, 1) := by decide +kernel
theorem dL_law_630 : decode cL_law 630 = .ok (.iload_n 3, 1) := by decide +kernel
theorem dL_law_631 : decode cL_law 631 = .ok (.iconst 1, 1) := by decide +kernel
theorem dL_law_632 : decode cL_law 632 = .ok (.iadd, 1) := by decide +kernel
theorem dL_law_633 : decode cL_law 633 = .ok (.iaload, 1) := by decide +kernel
theorem dL_law_634 : decode cL_law 634 = .ok (.invokevirtual 89, 3) := by decide +kernel
theorem dL_law_637 : decode cL_law 637 = .ok (.aload_n 2, 1) := by decide +kernel
theorem dL_law_638 : decode cL_law 638 = .ok (.aload_n 0, 1) := by decide +kernel
theorem dL_law_639 : decode cL_law 639 = .ok (.iload_n 3, 1) := by decide +kernel
theorem dL_law_640 : decode cL_law 640 = .ok (.iconst 1, 1) := by decide +kernel
theorem dL_law_641 : decode cL_law 641 = .ok (.iadd, 1) := by decide +kernel
theorem dL_law_642 : decode cL_law 642 = .ok (.iaload, 1) := by decide +kernel
theorem dL_law_643 : decode cL_law 643 = .ok (.invokevirtual 92, 3) := by decide +kernel
theorem dL_law_646 : decode cL_law 646 = .ok (.if_icmp .eq 90, 3) := by decide +kernel
theorem dL_law_649 : decode cL_law 649 = .ok (.iconst 0, 1) := by decide +kernel
theorem dL_law_650 : decode cL_law 650 = .ok (.ireturn, 1) := by decide +kernel
theorem dL_law_651 : decode cL_law 651 = .ok (.aload_n 1, 1) := by decide +kernel
theorem dL_law_652 : decode cL_law 652 = .ok (.invokevirtual 93, 3) := by decide +kernel
theorem dL_law_655 : decode cL_law 655 = .ok (.aload_n 2, 1) := by decide +kernel
theorem dL_law_656 : decode cL_law 656 = .ok (.invokevirtual 96, 3) := by decide +kernel
theorem dL_law_659 : decode cL_law 659 = .ok (.if_icmp .eq 77, 3) := by decide +kernel
theorem dL_law_662 : decode cL_law 662 = .ok (.iconst 0, 1) := by decide +kernel
theorem dL_law_663 : decode cL_law 663 = .ok (.ireturn, 1) := by decide +kernel
theorem dL_law_664 : decode cL_law 664 = .ok (.aload_n 1, 1) := by decide +kernel
theorem dL_law_665 : decode cL_law 665 = .ok (.aload_n 0, 1) := by decide +kernel
theorem dL_law_666 : decode cL_law 666 = .ok (.iload_n 3, 1) := by decide +kernel
theorem dL_law_667 : decode cL_law 667 = .ok (.iconst 1, 1) := by decide +kernel
theorem dL_law_668 : decode cL_law 668 = .ok (.iadd, 1) := by decide +kernel
theorem dL_law_669 : decode cL_law 669 = .ok (.iaload, 1) := by decide +kernel
theorem dL_law_670 : decode cL_law 670 = .ok (.invokevirtual 97, 3) := by decide +kernel
theorem dL_law_673 : decode cL_law 673 = .ok (.aload_n 2, 1) := by decide +kernel
theorem dL_law_674 : decode cL_law 674 = .ok (.aload_n 0, 1) := by decide +kernel
theorem dL_law_675 : decode cL_law 675 = .ok (.iload_n 3, 1) := by decide +kernel
theorem dL_law_676 : decode cL_law 676 = .ok (.iconst 1, 1) := by decide +kernel
theorem dL_law_677 : decode cL_law 677 = .ok (.iadd, 1) := by decide +kernel
theorem dL_law_678 : decode cL_law 678 = .ok (.iaload, 1) := by decide +kernel
theorem dL_law_679 : decode cL_law 679 = .ok (.invokevirtual 100, 3) := by decide +kernel
theorem dL_law_682 : decode cL_law 682 = .ok (.if_icmp .eq 54, 3) := by decide +kernel
theorem dL_law_685 : decode cL_law 685 = .ok (.iconst 0, 1) := by decide +kernel
theorem dL_law_686 : decode cL_law 686 = .ok (.ireturn, 1) := by decide +kernel
theorem dL_law_687 : decode cL_law 687 = .ok (.aload_n 1, 1) := by decide +kernel
theorem dL_law_688 : decode cL_law 688 = .ok (.invokevirtual 101, 3) := by decide +kernel
theorem dL_law_691 : decode cL_law 691 = .ok (.aload_n 2, 1) := by decide +kernel
theorem dL_law_692 : decode cL_law 692 = .ok (.invokevirtual 104, 3) := by decide +kernel
theorem dL_law_695 : decode cL_law 695 = .ok (.if_icmp .eq 41, 3) := by decide +kernel
theorem dL_law_698 : decode cL_law 698 = .ok (.iconst 0, 1) := by decide +kernel
theorem dL_law_699 : decode cL_law 699 = .ok (.ireturn, 1) := by decide +kernel
theorem dL_law_700 : decode cL_law 700 = .ok (.aload_n 1, 1) := by decide +kernel
theorem dL_law_701 : decode cL_law 701 = .ok (.aload_n 0, 1) := by decide +kernel
theorem dL_law_702 : decode cL_law 702 = .ok (.iload_n 3, 1) := by decide +kernel
theorem dL_law_703 : decode cL_law 703 = .ok (.iconst 1, 1) := by decide +kernel
theorem dL_law_704 : decode cL_law 704 = .ok (.iadd, 1) := by decide +kernel
theorem dL_law_705 : decode cL_law 705 = .ok (.iaload, 1) := by decide +kernel
theorem dL_law_706 : decode cL_law 706 = .ok (.invokevirtual 105, 3) := by decide +kernel
theorem dL_law_709 : decode cL_law 709 = .ok (.aload_n 2, 1) := by decide +kernel
theorem dL_law_710 : decode cL_law 710 = .ok (.aload_n 0, 1) := by decide +kernel
theorem dL_law_711 : decode cL_law 711 = .ok (.iload_n 3, 1) := by decide +kernel
theorem dL_law_712 : decode cL_law 712 = .ok (.iconst 1, 1) := by decide +kernel
theorem dL_law_713 : decode cL_law 713 = .ok (.iadd, 1) := by decide +kernel
theorem dL_law_714 : decode cL_law 714 = .ok (.iaload, 1) := by decide +kernel
theorem dL_law_715 : decode cL_law 715 = .ok (.invokevirtual 108, 3) := by decide +kernel
theorem dL_law_718 : decode cL_law 718 = .ok (.if_icmp .eq 18, 3) := by decide +kernel
theorem dL_law_721 : decode cL_law 721 = .ok (.iconst 0, 1) := by decide +kernel
theorem dL_law_722 : decode cL_law 722 = .ok (.ireturn, 1) := by decide +kernel
theorem dL_law_723 : decode cL_law 723 = .ok (.aload_n 1, 1) := by decide +kernel
theorem dL_law_724 : decode cL_law 724 = .ok (.invokevirtual 109, 3) := by decide +kernel
theorem dL_law_727 : decode cL_law 727 = .ok (.aload_n 2, 1) := by decide +kernel
theorem dL_law_728 : decode cL_law 728 = .ok (.invokevirtual 112, 3) := by decide +kernel
theorem dL_law_731 : decode cL_law 731 = .ok (.if_icmp .eq 5, 3) := by decide +kernel
theorem dL_law_734 : decode cL_law 734 = .ok (.iconst 0, 1) := by decide +kernel
theorem dL_law_735 : decode cL_law 735 = .ok (.ireturn, 1) := by decide +kernel
theorem dL_law_736 : decode cL_law 736 = .ok (.iinc 3 4, 3) := by decide +kernel
theorem dL_law_739 : decode cL_law 739 = .ok (.goto (-721), 3) := by decide +kernel
theorem dL_law_742 : decode cL_law 742 = .ok (.iconst 1, 1) := by decide +kernel
theorem dL_law_743 : decode cL_law 743 = .ok (.ireturn, 1) := by decide +kernel
end
section
/-! WORDS: the tables' words that a walk needs, each by its place -/
def zTb : List Cond := lw_tbl.filter goodWord
theorem zTb_of {w : Cond} (h : w ∈ lw_tbl) (g : goodWord w = true) : w ∈ zTb := List.mem_filter.mpr ⟨h, g⟩
theorem zt0 {w : Cond} (k : Nat) (h : (k2_sels lw_privs)[k]? = some w) (g : goodWord w = true) : w ∈ zTb := zTb_of (List.mem_append_left _ (List.mem_of_getElem? h)) g
theorem zt1 {w : Cond} (k : Nat) (h : tables_1_1[k]? = some w) (g : goodWord w = true) : w ∈ zTb := zTb_of (List.mem_append_right _ (List.mem_append_left _ (List.mem_of_getElem? h))) g
theorem zt2 {w : Cond} (k : Nat) (h : tables_1_2[k]? = some w) (g : goodWord w = true) : w ∈ zTb := zTb_of (List.mem_append_right _ (List.mem_append_right _ (List.mem_append_left _ (List.mem_of_getElem? h)))) g
theorem zt3 {w : Cond} (k : Nat) (h : tables_1_3[k]? = some w) (g : goodWord w = true) : w ∈ zTb := zTb_of (List.mem_append_right _ (List.mem_append_right _ (List.mem_append_right _ (List.mem_append_left _ (List.mem_of_getElem? h))))) g
theorem zt4 {w : Cond} (k : Nat) (h : tables_1_4[k]? = some w) (g : goodWord w = true) : w ∈ zTb := zTb_of (List.mem_append_right _ (List.mem_append_right _ (List.mem_append_right _ (List.mem_append_right _ (List.mem_of_getElem? h))))) g
theorem zTb_lw {w : Cond} (h : w ∈ zTb) : w ∈ lw_tbl := (List.mem_filter.mp h).1
theorem zTb_good {w : Cond} (h : w ∈ zTb) : goodWord w = true := (List.mem_filter.mp h).2
theorem zm_1_0 : Cond.initialized RL ∈ zTb := zt1 0 (by decide +kernel) (by decide +kernel)
theorem zm_1_1 : Cond.initialized RX8 ∈ zTb := zt1 1 (by decide +kernel) (by decide +kernel)
theorem zm_1_2 : Cond.initialized RX2 ∈ zTb := zt1 2 (by decide +kernel) (by decide +kernel)
theorem zm_1_3 : Cond.initialized RX7 ∈ zTb := zt1 3 (by decide +kernel) (by decide +kernel)
theorem zm_1_4 : Cond.initialized RX3 ∈ zTb := zt1 4 (by decide +kernel) (by decide +kernel)
theorem zm_1_5 : Cond.initialized RX6 ∈ zTb := zt1 5 (by decide +kernel) (by decide +kernel)
theorem zm_1_6 : Cond.initialized RX4 ∈ zTb := zt1 6 (by decide +kernel) (by decide +kernel)
theorem zm_1_7 : Cond.initialized RX0 ∈ zTb := zt1 7 (by decide +kernel) (by decide +kernel)
theorem zm_1_8 : Cond.initialized RX1 ∈ zTb := zt1 8 (by decide +kernel) (by decide +kernel)
theorem zm_1_9 : Cond.initialized RX5 ∈ zTb := zt1 9 (by decide +kernel) (by decide +kernel)
theorem zm_1_10 : Cond.initialized RX9 ∈ zTb := zt1 10 (by decide +kernel) (by decide +kernel)
theorem zm_1_11 : Cond.initialized RJ9 ∈ zTb := zt1 11 (by decide +kernel) (by decide +kernel)
theorem zm_1_12 : Cond.initialized RJxf58ca ∈ zTb := zt1 12 (by decide +kernel) (by decide +kernel)
theorem zm_1_13 : Cond.classLink RL 7 RX8 ∈ zTb := zt1 13 (by decide +kernel) (by decide +kernel)
theorem zm_1_14 : Cond.instantiable RX8 4 ∈ zTb := zt1 14 (by decide +kernel) (by decide +kernel)
theorem zm_1_15 : Cond.methodLink RL 9 yX8_init ∈ zTb := zt1 15 (by decide +kernel) (by decide +kernel)
theorem zm_1_16 : Cond.instanceMethod yX8_init ∈ zTb := zt1 16 (by decide +kernel) (by decide +kernel)
theorem zm_1_17 : Cond.code yX8_init cX8_init 1 none ∈ zTb := zt1 17 (by decide +kernel) (by decide +kernel)
theorem zm_1_18 : Cond.methodLink RX8 1 objectInit ∈ zTb := zt1 18 (by decide +kernel) (by decide +kernel)
theorem zm_1_19 : Cond.instanceMethod objectInit ∈ zTb := zt1 19 (by decide +kernel) (by decide +kernel)
theorem zm_1_20 : Cond.code objectInit object_method_1_code 1 none ∈ zTb := zt1 20 (by decide +kernel) (by decide +kernel)
theorem zm_1_21 : Cond.classLink RX8 7 RX2 ∈ zTb := zt1 21 (by decide +kernel) (by decide +kernel)
theorem zm_1_22 : Cond.instantiable RX2 10 ∈ zTb := zt1 22 (by decide +kernel) (by decide +kernel)
theorem zm_1_23 : Cond.methodLink RX8 9 yX2_init ∈ zTb := zt1 23 (by decide +kernel) (by decide +kernel)
theorem zm_1_24 : Cond.instanceMethod yX2_init ∈ zTb := zt1 24 (by decide +kernel) (by decide +kernel)
theorem zm_1_25 : Cond.code yX2_init cX2_init 2 none ∈ zTb := zt1 25 (by decide +kernel) (by decide +kernel)
theorem zm_1_26 : Cond.methodLink RX2 3 objectInit ∈ zTb := zt1 26 (by decide +kernel) (by decide +kernel)
theorem zm_1_27 : Cond.classLink RX2 9 RX4 ∈ zTb := zt1 27 (by decide +kernel) (by decide +kernel)
theorem zm_1_29 : Cond.classLink RX2 17 RX0 ∈ zTb := zt1 29 (by decide +kernel) (by decide +kernel)
theorem zm_1_31 : Cond.classLink RX2 23 RX7 ∈ zTb := zt1 31 (by decide +kernel) (by decide +kernel)
theorem zm_1_32 : Cond.instantiable RX7 1 ∈ zTb := zt1 32 (by decide +kernel) (by decide +kernel)
theorem zm_1_34 : Cond.instanceMethod yX7_init ∈ zTb := zt1 34 (by decide +kernel) (by decide +kernel)
theorem zm_1_35 : Cond.code yX7_init cX7_init 1 none ∈ zTb := zt1 35 (by decide +kernel) (by decide +kernel)
theorem zm_1_36 : Cond.methodLink RX7 3 objectInit ∈ zTb := zt1 36 (by decide +kernel) (by decide +kernel)
theorem zm_1_37 : Cond.fieldLink RX7 9 "HutLoaves$Shelf" "byAge" "[I" ∈ zTb := zt1 37 (by decide +kernel) (by decide +kernel)
theorem zm_1_42 : Cond.classLink RX2 30 RX3 ∈ zTb := zt1 42 (by decide +kernel) (by decide +kernel)
theorem zm_1_43 : Cond.instantiable RX3 10 ∈ zTb := zt1 43 (by decide +kernel) (by decide +kernel)
theorem zm_1_45 : Cond.instanceMethod yX3_init ∈ zTb := zt1 45 (by decide +kernel) (by decide +kernel)
theorem zm_1_46 : Cond.code yX3_init cX3_init 1 none ∈ zTb := zt1 46 (by decide +kernel) (by decide +kernel)
theorem zm_1_47 : Cond.methodLink RX3 1 objectInit ∈ zTb := zt1 47 (by decide +kernel) (by decide +kernel)
theorem zm_1_48 : Cond.fieldLink RX3 7 "HutLoaves$Ledger" "money" "I" ∈ zTb := zt1 48 (by decide +kernel) (by decide +kernel)
theorem zm_1_51 : Cond.fieldLink RX3 13 "HutLoaves$Ledger" "debt" "I" ∈ zTb := zt1 51 (by decide +kernel) (by decide +kernel)
theorem zm_1_53 : Cond.fieldLink RX3 16 "HutLoaves$Ledger" "baked" "I" ∈ zTb := zt1 53 (by decide +kernel) (by decide +kernel)
theorem zm_1_55 : Cond.fieldLink RX3 19 "HutLoaves$Ledger" "eaten" "I" ∈ zTb := zt1 55 (by decide +kernel) (by decide +kernel)
theorem zm_1_58 : Cond.fieldLink RX3 22 "HutLoaves$Ledger" "thrownAway" "I" ∈ zTb := zt1 58 (by decide +kernel) (by decide +kernel)
theorem zm_1_60 : Cond.fieldLink RX3 25 "HutLoaves$Ledger" "lost" "I" ∈ zTb := zt1 60 (by decide +kernel) (by decide +kernel)
theorem zm_1_62 : Cond.fieldLink RX3 28 "HutLoaves$Ledger" "snowDays" "I" ∈ zTb := zt1 62 (by decide +kernel) (by decide +kernel)
theorem zm_1_64 : Cond.fieldLink RX3 31 "HutLoaves$Ledger" "hungryDays" "I" ∈ zTb := zt1 64 (by decide +kernel) (by decide +kernel)
theorem zm_1_67 : Cond.fieldLink RX3 34 "HutLoaves$Ledger" "paidByGroups" "I" ∈ zTb := zt1 67 (by decide +kernel) (by decide +kernel)
theorem zm_1_69 : Cond.fieldLink RX3 37 "HutLoaves$Ledger" "paidToBaker" "I" ∈ zTb := zt1 69 (by decide +kernel) (by decide +kernel)
theorem zm_1_92 : Cond.classLink RX2 37 RX6 ∈ zTb := zt1 92 (by decide +kernel) (by decide +kernel)
theorem zm_1_93 : Cond.instantiable RX6 4 ∈ zTb := zt1 93 (by decide +kernel) (by decide +kernel)
theorem zm_1_95 : Cond.instanceMethod yX6_init ∈ zTb := zt1 95 (by decide +kernel) (by decide +kernel)
theorem zm_1_96 : Cond.code yX6_init cX6_init 1 none ∈ zTb := zt1 96 (by decide +kernel) (by decide +kernel)
theorem zm_1_97 : Cond.methodLink RX6 3 objectInit ∈ zTb := zt1 97 (by decide +kernel) (by decide +kernel)
theorem zm_1_98 : Cond.fieldLink RX6 9 "HutLoaves$Settings" "price" "I" ∈ zTb := zt1 98 (by decide +kernel) (by decide +kernel)
theorem zm_1_100 : Cond.fieldLink RX6 15 "HutLoaves$Settings" "credit" "I" ∈ zTb := zt1 100 (by decide +kernel) (by decide +kernel)
theorem zm_1_102 : Cond.fieldLink RX6 18 "HutLoaves$Settings" "freshDays" "I" ∈ zTb := zt1 102 (by decide +kernel) (by decide +kernel)
theorem zm_1_104 : Cond.fieldLink RX6 21 "HutLoaves$Settings" "snow" "I" ∈ zTb := zt1 104 (by decide +kernel) (by decide +kernel)
theorem zm_1_115 : Cond.instantiable RX4 9 ∈ zTb := zt1 115 (by decide +kernel) (by decide +kernel)
theorem zm_1_117 : Cond.instanceMethod yX4_init ∈ zTb := zt1 117 (by decide +kernel) (by decide +kernel)
theorem zm_1_118 : Cond.code yX4_init cX4_init 1 none ∈ zTb := zt1 118 (by decide +kernel) (by decide +kernel)
theorem zm_1_119 : Cond.methodLink RX4 3 objectInit ∈ zTb := zt1 119 (by decide +kernel) (by decide +kernel)
theorem zm_1_120 : Cond.fieldLink RX4 9 "HutLoaves$Mule" "load" "I" ∈ zTb := zt1 120 (by decide +kernel) (by decide +kernel)
theorem zm_1_123 : Cond.fieldLink RX4 15 "HutLoaves$Mule" "strength" "I" ∈ zTb := zt1 123 (by decide +kernel) (by decide +kernel)
theorem zm_1_124 : Cond.fieldLink RX4 18 "HutLoaves$Mule" "place" "I" ∈ zTb := zt1 124 (by decide +kernel) (by decide +kernel)
theorem zm_1_126 : Cond.fieldLink RX4 21 "HutLoaves$Mule" "daysToGo" "I" ∈ zTb := zt1 126 (by decide +kernel) (by decide +kernel)
theorem zm_1_127 : Cond.fieldLink RX4 24 "HutLoaves$Mule" "brings" "I" ∈ zTb := zt1 127 (by decide +kernel) (by decide +kernel)
theorem zm_1_129 : Cond.fieldLink RX4 27 "HutLoaves$Mule" "bakedOn" "I" ∈ zTb := zt1 129 (by decide +kernel) (by decide +kernel)
theorem zm_1_131 : Cond.fieldLink RX4 30 "HutLoaves$Mule" "sent" "I" ∈ zTb := zt1 131 (by decide +kernel) (by decide +kernel)
theorem zm_1_133 : Cond.fieldLink RX4 33 "HutLoaves$Mule" "brought" "I" ∈ zTb := zt1 133 (by decide +kernel) (by decide +kernel)
theorem zm_1_134 : Cond.fieldLink RX4 36 "HutLoaves$Mule" "timesLame" "I" ∈ zTb := zt1 134 (by decide +kernel) (by decide +kernel)
theorem zm_1_154 : Cond.instantiable RX0 6 ∈ zTb := zt1 154 (by decide +kernel) (by decide +kernel)
theorem zm_1_156 : Cond.instanceMethod yX0_init ∈ zTb := zt1 156 (by decide +kernel) (by decide +kernel)
theorem zm_1_157 : Cond.code yX0_init cX0_init 1 none ∈ zTb := zt1 157 (by decide +kernel) (by decide +kernel)
theorem zm_1_158 : Cond.methodLink RX0 3 objectInit ∈ zTb := zt1 158 (by decide +kernel) (by decide +kernel)
theorem zm_1_159 : Cond.fieldLink RX0 9 "HutLoaves$Group" "number" "I" ∈ zTb := zt1 159 (by decide +kernel) (by decide +kernel)
theorem zm_1_162 : Cond.fieldLink RX0 15 "HutLoaves$Group" "persons" "I" ∈ zTb := zt1 162 (by decide +kernel) (by decide +kernel)
theorem zm_1_164 : Cond.fieldLink RX0 18 "HutLoaves$Group" "firstDay" "I" ∈ zTb := zt1 164 (by decide +kernel) (by decide +kernel)
theorem zm_1_165 : Cond.fieldLink RX0 21 "HutLoaves$Group" "nights" "I" ∈ zTb := zt1 165 (by decide +kernel) (by decide +kernel)
theorem zm_1_166 : Cond.fieldLink RX0 24 "HutLoaves$Group" "paid" "I" ∈ zTb := zt1 166 (by decide +kernel) (by decide +kernel)
theorem zm_1_168 : Cond.fieldLink RX0 27 "HutLoaves$Group" "hungryDays" "I" ∈ zTb := zt1 168 (by decide +kernel) (by decide +kernel)
theorem zm_1_183 : Cond.fieldLink RX2 11 "HutLoaves$Hut" "mules" "[LHutLoaves$Mule;" ∈ zTb := zt1 183 (by decide +kernel) (by decide +kernel)
theorem zm_1_184 : Cond.fieldLink RX2 19 "HutLoaves$Hut" "groups" "[LHutLoaves$Group;" ∈ zTb := zt1 184 (by decide +kernel) (by decide +kernel)
theorem zm_1_185 : Cond.fieldLink RX2 26 "HutLoaves$Hut" "shelf" "LHutLoaves$Shelf;" ∈ zTb := zt1 185 (by decide +kernel) (by decide +kernel)
theorem zm_1_187 : Cond.fieldLink RX2 33 "HutLoaves$Hut" "ledger" "LHutLoaves$Ledger;" ∈ zTb := zt1 187 (by decide +kernel) (by decide +kernel)
theorem zm_1_189 : Cond.fieldLink RX2 40 "HutLoaves$Hut" "settings" "LHutLoaves$Settings;" ∈ zTb := zt1 189 (by decide +kernel) (by decide +kernel)
theorem zm_1_191 : Cond.fieldLink RX2 50 "HutLoaves$Hut" "muleCount" "I" ∈ zTb := zt1 191 (by decide +kernel) (by decide +kernel)
theorem zm_1_192 : Cond.fieldLink RX2 53 "HutLoaves$Hut" "booked" "I" ∈ zTb := zt1 192 (by decide +kernel) (by decide +kernel)
theorem zm_1_193 : Cond.fieldLink RX2 56 "HutLoaves$Hut" "groupsSoFar" "I" ∈ zTb := zt1 193 (by decide +kernel) (by decide +kernel)
theorem zm_1_194 : Cond.fieldLink RX2 59 "HutLoaves$Hut" "day" "I" ∈ zTb := zt1 194 (by decide +kernel) (by decide +kernel)
theorem zm_1_196 : Cond.fieldLink RX2 44 "HutLoaves$Hut" "x" "I" ∈ zTb := zt1 196 (by decide +kernel) (by decide +kernel)
theorem zm_1_218 : Cond.classLink RX8 19 RX1 ∈ zTb := zt1 218 (by decide +kernel) (by decide +kernel)
theorem zm_1_219 : Cond.instantiable RX1 2 ∈ zTb := zt1 219 (by decide +kernel) (by decide +kernel)
theorem zm_1_220 : Cond.methodLink RX8 21 yX1_init ∈ zTb := zt1 220 (by decide +kernel) (by decide +kernel)
theorem zm_1_221 : Cond.instanceMethod yX1_init ∈ zTb := zt1 221 (by decide +kernel) (by decide +kernel)
theorem zm_1_222 : Cond.code yX1_init cX1_init 2 none ∈ zTb := zt1 222 (by decide +kernel) (by decide +kernel)
theorem zm_1_223 : Cond.methodLink RX1 3 objectInit ∈ zTb := zt1 223 (by decide +kernel) (by decide +kernel)
theorem zm_1_224 : Cond.classLink RX1 9 RX2 ∈ zTb := zt1 224 (by decide +kernel) (by decide +kernel)
theorem zm_1_226 : Cond.methodLink RX1 17 yX2_init ∈ zTb := zt1 226 (by decide +kernel) (by decide +kernel)
theorem zm_1_227 : Cond.fieldLink RX1 11 "HutLoaves$History" "states" "[LHutLoaves$Hut;" ∈ zTb := zt1 227 (by decide +kernel) (by decide +kernel)
theorem zm_1_228 : Cond.fieldLink RX1 18 "HutLoaves$History" "size" "I" ∈ zTb := zt1 228 (by decide +kernel) (by decide +kernel)
theorem zm_1_235 : Cond.classLink RX8 26 RX5 ∈ zTb := zt1 235 (by decide +kernel) (by decide +kernel)
theorem zm_1_236 : Cond.instantiable RX5 7 ∈ zTb := zt1 236 (by decide +kernel) (by decide +kernel)
theorem zm_1_238 : Cond.instanceMethod yX5_init ∈ zTb := zt1 238 (by decide +kernel) (by decide +kernel)
theorem zm_1_239 : Cond.code yX5_init cX5_init 1 none ∈ zTb := zt1 239 (by decide +kernel) (by decide +kernel)
theorem zm_2_0 : Cond.methodLink RX5 3 objectInit ∈ zTb := zt2 0 (by decide +kernel) (by decide +kernel)
theorem zm_2_1 : Cond.fieldLink RX5 9 "HutLoaves$Orders" "signs" "[C" ∈ zTb := zt2 1 (by decide +kernel) (by decide +kernel)
theorem zm_2_2 : Cond.fieldLink RX5 15 "HutLoaves$Orders" "numbers" "[I" ∈ zTb := zt2 2 (by decide +kernel) (by decide +kernel)
theorem zm_2_3 : Cond.fieldLink RX5 19 "HutLoaves$Orders" "length" "I" ∈ zTb := zt2 3 (by decide +kernel) (by decide +kernel)
theorem zm_2_5 : Cond.fieldLink RX5 24 "HutLoaves$Orders" "start" "I" ∈ zTb := zt2 5 (by decide +kernel) (by decide +kernel)
theorem zm_2_7 : Cond.fieldLink RX5 37 "HutLoaves$Orders" "at" "I" ∈ zTb := zt2 7 (by decide +kernel) (by decide +kernel)
theorem zm_2_8 : Cond.fieldLink RX5 27 "HutLoaves$Orders" "reason" "I" ∈ zTb := zt2 8 (by decide +kernel) (by decide +kernel)
theorem zm_2_10 : Cond.fieldLink RX5 30 "HutLoaves$Orders" "cause" "I" ∈ zTb := zt2 10 (by decide +kernel) (by decide +kernel)
theorem zm_2_28 : Cond.fieldLink RX8 10 "HutLoaves" "now" "LHutLoaves$Hut;" ∈ zTb := zt2 28 (by decide +kernel) (by decide +kernel)
theorem zm_2_29 : Cond.fieldLink RX8 16 "HutLoaves" "trial" "LHutLoaves$Hut;" ∈ zTb := zt2 29 (by decide +kernel) (by decide +kernel)
theorem zm_2_30 : Cond.fieldLink RX8 22 "HutLoaves" "history" "LHutLoaves$History;" ∈ zTb := zt2 30 (by decide +kernel) (by decide +kernel)
theorem zm_2_31 : Cond.fieldLink RX8 29 "HutLoaves" "orders" "LHutLoaves$Orders;" ∈ zTb := zt2 31 (by decide +kernel) (by decide +kernel)
theorem zm_2_41 : Cond.methodLink RL 13 yX8_mule ∈ zTb := zt2 41 (by decide +kernel) (by decide +kernel)
theorem zm_2_42 : Cond.instanceMethod yX8_mule ∈ zTb := zt2 42 (by decide +kernel) (by decide +kernel)
theorem zm_2_43 : Cond.selects RX8 yX8_mule yX8_mule ∈ zTb := zt2 43 (by decide +kernel) (by decide +kernel)
theorem zm_2_44 : Cond.code yX8_mule cX8_mule 3 (some .int) ∈ zTb := zt2 44 (by decide +kernel) (by decide +kernel)
theorem zm_2_45 : Cond.methodLink RX8 33 yX2_copyFrom ∈ zTb := zt2 45 (by decide +kernel) (by decide +kernel)
theorem zm_2_46 : Cond.instanceMethod yX2_copyFrom ∈ zTb := zt2 46 (by decide +kernel) (by decide +kernel)
theorem zm_2_47 : Cond.selects RX2 yX2_copyFrom yX2_copyFrom ∈ zTb := zt2 47 (by decide +kernel) (by decide +kernel)
theorem zm_2_48 : Cond.code yX2_copyFrom cX2_copyFrom 5 none ∈ zTb := zt2 48 (by decide +kernel) (by decide +kernel)
theorem zm_2_49 : Cond.methodLink RX2 62 yX7_copyFrom ∈ zTb := zt2 49 (by decide +kernel) (by decide +kernel)
theorem zm_2_50 : Cond.instanceMethod yX7_copyFrom ∈ zTb := zt2 50 (by decide +kernel) (by decide +kernel)
theorem zm_2_51 : Cond.selects RX7 yX7_copyFrom yX7_copyFrom ∈ zTb := zt2 51 (by decide +kernel) (by decide +kernel)
theorem zm_2_52 : Cond.code yX7_copyFrom cX7_copyFrom 3 none ∈ zTb := zt2 52 (by decide +kernel) (by decide +kernel)
theorem zm_2_53 : Cond.methodLink RX2 66 yX3_copyFrom ∈ zTb := zt2 53 (by decide +kernel) (by decide +kernel)
theorem zm_2_54 : Cond.instanceMethod yX3_copyFrom ∈ zTb := zt2 54 (by decide +kernel) (by decide +kernel)
theorem zm_2_55 : Cond.selects RX3 yX3_copyFrom yX3_copyFrom ∈ zTb := zt2 55 (by decide +kernel) (by decide +kernel)
theorem zm_2_56 : Cond.code yX3_copyFrom cX3_copyFrom 2 none ∈ zTb := zt2 56 (by decide +kernel) (by decide +kernel)
theorem zm_2_57 : Cond.methodLink RX2 69 yX6_copyFrom ∈ zTb := zt2 57 (by decide +kernel) (by decide +kernel)
theorem zm_2_58 : Cond.instanceMethod yX6_copyFrom ∈ zTb := zt2 58 (by decide +kernel) (by decide +kernel)
theorem zm_2_59 : Cond.selects RX6 yX6_copyFrom yX6_copyFrom ∈ zTb := zt2 59 (by decide +kernel) (by decide +kernel)
theorem zm_2_60 : Cond.code yX6_copyFrom cX6_copyFrom 2 none ∈ zTb := zt2 60 (by decide +kernel) (by decide +kernel)
theorem zm_2_61 : Cond.methodLink RX2 72 yX2_muleAt ∈ zTb := zt2 61 (by decide +kernel) (by decide +kernel)
theorem zm_2_62 : Cond.instanceMethod yX2_muleAt ∈ zTb := zt2 62 (by decide +kernel) (by decide +kernel)
theorem zm_2_63 : Cond.selects RX2 yX2_muleAt yX2_muleAt ∈ zTb := zt2 63 (by decide +kernel) (by decide +kernel)
theorem zm_2_64 : Cond.code yX2_muleAt cX2_muleAt 2 (some (.object "HutLoaves$Mule")) ∈ zTb := zt2 64 (by decide +kernel) (by decide +kernel)
theorem zm_2_65 : Cond.methodLink RX2 76 yX4_copyFrom ∈ zTb := zt2 65 (by decide +kernel) (by decide +kernel)
theorem zm_2_66 : Cond.instanceMethod yX4_copyFrom ∈ zTb := zt2 66 (by decide +kernel) (by decide +kernel)
theorem zm_2_67 : Cond.selects RX4 yX4_copyFrom yX4_copyFrom ∈ zTb := zt2 67 (by decide +kernel) (by decide +kernel)
theorem zm_2_68 : Cond.code yX4_copyFrom cX4_copyFrom 2 none ∈ zTb := zt2 68 (by decide +kernel) (by decide +kernel)
theorem zm_2_69 : Cond.methodLink RX2 79 yX2_groupAt ∈ zTb := zt2 69 (by decide +kernel) (by decide +kernel)
theorem zm_2_70 : Cond.instanceMethod yX2_groupAt ∈ zTb := zt2 70 (by decide +kernel) (by decide +kernel)
theorem zm_2_71 : Cond.selects RX2 yX2_groupAt yX2_groupAt ∈ zTb := zt2 71 (by decide +kernel) (by decide +kernel)
theorem zm_2_72 : Cond.code yX2_groupAt cX2_groupAt 2 (some (.object "HutLoaves$Group")) ∈ zTb := zt2 72 (by decide +kernel) (by decide +kernel)
theorem zm_2_73 : Cond.methodLink RX2 83 yX0_copyFrom ∈ zTb := zt2 73 (by decide +kernel) (by decide +kernel)
theorem zm_2_74 : Cond.instanceMethod yX0_copyFrom ∈ zTb := zt2 74 (by decide +kernel) (by decide +kernel)
theorem zm_2_75 : Cond.selects RX0 yX0_copyFrom yX0_copyFrom ∈ zTb := zt2 75 (by decide +kernel) (by decide +kernel)
theorem zm_2_76 : Cond.code yX0_copyFrom cX0_copyFrom 2 none ∈ zTb := zt2 76 (by decide +kernel) (by decide +kernel)
theorem zm_2_77 : Cond.methodLink RX8 37 yX2_addMule ∈ zTb := zt2 77 (by decide +kernel) (by decide +kernel)
theorem zm_2_78 : Cond.instanceMethod yX2_addMule ∈ zTb := zt2 78 (by decide +kernel) (by decide +kernel)
theorem zm_2_79 : Cond.selects RX2 yX2_addMule yX2_addMule ∈ zTb := zt2 79 (by decide +kernel) (by decide +kernel)
theorem zm_2_80 : Cond.code yX2_addMule cX2_addMule 5 (some .int) ∈ zTb := zt2 80 (by decide +kernel) (by decide +kernel)
theorem zm_2_82 : Cond.static yX8_isWithin ∈ zTb := zt2 82 (by decide +kernel) (by decide +kernel)
theorem zm_2_83 : Cond.code yX8_isWithin cX8_isWithin 3 (some .boolean) ∈ zTb := zt2 83 (by decide +kernel) (by decide +kernel)
theorem zm_2_84 : Cond.constant RX2 93 (-1000001) ∈ zTb := zt2 84 (by decide +kernel) (by decide +kernel)
theorem zm_2_85 : Cond.constant RX2 94 (-1000003) ∈ zTb := zt2 85 (by decide +kernel) (by decide +kernel)
theorem zm_2_86 : Cond.methodLink RX2 95 yX4_begin ∈ zTb := zt2 86 (by decide +kernel) (by decide +kernel)
theorem zm_2_87 : Cond.instanceMethod yX4_begin ∈ zTb := zt2 87 (by decide +kernel) (by decide +kernel)
theorem zm_2_88 : Cond.selects RX4 yX4_begin yX4_begin ∈ zTb := zt2 88 (by decide +kernel) (by decide +kernel)
theorem zm_2_89 : Cond.code yX4_begin cX4_begin 3 none ∈ zTb := zt2 89 (by decide +kernel) (by decide +kernel)
theorem zm_2_90 : Cond.methodLink RX8 41 yX8_takeOver ∈ zTb := zt2 90 (by decide +kernel) (by decide +kernel)
theorem zm_2_92 : Cond.instanceMethod yX8_takeOver ∈ zTb := zt2 92 (by decide +kernel) (by decide +kernel)
theorem zm_2_93 : Cond.code yX8_takeOver cX8_takeOver 2 (some .int) ∈ zTb := zt2 93 (by decide +kernel) (by decide +kernel)
theorem zm_2_94 : Cond.methodLink RX8 196 yX1_keep ∈ zTb := zt2 94 (by decide +kernel) (by decide +kernel)
theorem zm_2_95 : Cond.instanceMethod yX1_keep ∈ zTb := zt2 95 (by decide +kernel) (by decide +kernel)
theorem zm_2_96 : Cond.selects RX1 yX1_keep yX1_keep ∈ zTb := zt2 96 (by decide +kernel) (by decide +kernel)
theorem zm_2_97 : Cond.code yX1_keep cX1_keep 3 none ∈ zTb := zt2 97 (by decide +kernel) (by decide +kernel)
theorem zm_2_98 : Cond.methodLink RX1 22 yX1_dropOldest ∈ zTb := zt2 98 (by decide +kernel) (by decide +kernel)
theorem zm_2_100 : Cond.instanceMethod yX1_dropOldest ∈ zTb := zt2 100 (by decide +kernel) (by decide +kernel)
theorem zm_2_101 : Cond.code yX1_dropOldest cX1_dropOldest 3 none ∈ zTb := zt2 101 (by decide +kernel) (by decide +kernel)
theorem zm_2_102 : Cond.methodLink RX1 25 yX2_copyFrom ∈ zTb := zt2 102 (by decide +kernel) (by decide +kernel)
theorem zm_2_103 : Cond.methodLink RL 18 yX8_send ∈ zTb := zt2 103 (by decide +kernel) (by decide +kernel)
theorem zm_2_104 : Cond.instanceMethod yX8_send ∈ zTb := zt2 104 (by decide +kernel) (by decide +kernel)
theorem zm_2_105 : Cond.selects RX8 yX8_send yX8_send ∈ zTb := zt2 105 (by decide +kernel) (by decide +kernel)
theorem zm_2_106 : Cond.code yX8_send cX8_send 3 (some .int) ∈ zTb := zt2 106 (by decide +kernel) (by decide +kernel)
theorem zm_2_107 : Cond.methodLink RX8 45 yX2_sendMule ∈ zTb := zt2 107 (by decide +kernel) (by decide +kernel)
theorem zm_2_108 : Cond.instanceMethod yX2_sendMule ∈ zTb := zt2 108 (by decide +kernel) (by decide +kernel)
theorem zm_2_109 : Cond.selects RX2 yX2_sendMule yX2_sendMule ∈ zTb := zt2 109 (by decide +kernel) (by decide +kernel)
theorem zm_2_110 : Cond.code yX2_sendMule cX2_sendMule 5 (some .int) ∈ zTb := zt2 110 (by decide +kernel) (by decide +kernel)
theorem zm_2_111 : Cond.methodLink RX2 114 yX2_whyNot ∈ zTb := zt2 111 (by decide +kernel) (by decide +kernel)
theorem zm_2_112 : Cond.instanceMethod yX2_whyNot ∈ zTb := zt2 112 (by decide +kernel) (by decide +kernel)
theorem zm_2_113 : Cond.selects RX2 yX2_whyNot yX2_whyNot ∈ zTb := zt2 113 (by decide +kernel) (by decide +kernel)
theorem zm_2_114 : Cond.code yX2_whyNot cX2_whyNot 4 (some .int) ∈ zTb := zt2 114 (by decide +kernel) (by decide +kernel)
theorem zm_2_115 : Cond.constant RX2 118 (-1000002) ∈ zTb := zt2 115 (by decide +kernel) (by decide +kernel)
theorem zm_2_116 : Cond.methodLink RX2 119 yX4_leave ∈ zTb := zt2 116 (by decide +kernel) (by decide +kernel)
theorem zm_2_117 : Cond.instanceMethod yX4_leave ∈ zTb := zt2 117 (by decide +kernel) (by decide +kernel)
theorem zm_2_118 : Cond.selects RX4 yX4_leave yX4_leave ∈ zTb := zt2 118 (by decide +kernel) (by decide +kernel)
theorem zm_2_119 : Cond.code yX4_leave cX4_leave 3 none ∈ zTb := zt2 119 (by decide +kernel) (by decide +kernel)
theorem zm_2_120 : Cond.methodLink RL 22 yX8_rest ∈ zTb := zt2 120 (by decide +kernel) (by decide +kernel)
theorem zm_2_121 : Cond.instanceMethod yX8_rest ∈ zTb := zt2 121 (by decide +kernel) (by decide +kernel)
theorem zm_2_122 : Cond.selects RX8 yX8_rest yX8_rest ∈ zTb := zt2 122 (by decide +kernel) (by decide +kernel)
theorem zm_2_123 : Cond.code yX8_rest cX8_rest 2 (some .int) ∈ zTb := zt2 123 (by decide +kernel) (by decide +kernel)
theorem zm_2_124 : Cond.methodLink RX8 48 yX2_restMule ∈ zTb := zt2 124 (by decide +kernel) (by decide +kernel)
theorem zm_2_125 : Cond.instanceMethod yX2_restMule ∈ zTb := zt2 125 (by decide +kernel) (by decide +kernel)
theorem zm_2_126 : Cond.selects RX2 yX2_restMule yX2_restMule ∈ zTb := zt2 126 (by decide +kernel) (by decide +kernel)
theorem zm_2_127 : Cond.code yX2_restMule cX2_restMule 4 (some .int) ∈ zTb := zt2 127 (by decide +kernel) (by decide +kernel)
theorem zm_2_128 : Cond.methodLink RL 27 yX8_pay ∈ zTb := zt2 128 (by decide +kernel) (by decide +kernel)
theorem zm_2_129 : Cond.instanceMethod yX8_pay ∈ zTb := zt2 129 (by decide +kernel) (by decide +kernel)
theorem zm_2_130 : Cond.selects RX8 yX8_pay yX8_pay ∈ zTb := zt2 130 (by decide +kernel) (by decide +kernel)
theorem zm_2_131 : Cond.code yX8_pay cX8_pay 2 (some .int) ∈ zTb := zt2 131 (by decide +kernel) (by decide +kernel)
theorem zm_2_132 : Cond.methodLink RX8 51 yX2_payBaker ∈ zTb := zt2 132 (by decide +kernel) (by decide +kernel)
theorem zm_2_133 : Cond.instanceMethod yX2_payBaker ∈ zTb := zt2 133 (by decide +kernel) (by decide +kernel)
theorem zm_2_134 : Cond.selects RX2 yX2_payBaker yX2_payBaker ∈ zTb := zt2 134 (by decide +kernel) (by decide +kernel)
theorem zm_2_135 : Cond.code yX2_payBaker cX2_payBaker 2 (some .int) ∈ zTb := zt2 135 (by decide +kernel) (by decide +kernel)
theorem zm_2_136 : Cond.methodLink RL 31 yX8_group ∈ zTb := zt2 136 (by decide +kernel) (by decide +kernel)
theorem zm_2_137 : Cond.instanceMethod yX8_group ∈ zTb := zt2 137 (by decide +kernel) (by decide +kernel)
theorem zm_2_138 : Cond.selects RX8 yX8_group yX8_group ∈ zTb := zt2 138 (by decide +kernel) (by decide +kernel)
theorem zm_2_139 : Cond.code yX8_group cX8_group 4 (some .int) ∈ zTb := zt2 139 (by decide +kernel) (by decide +kernel)
theorem zm_2_140 : Cond.methodLink RX8 54 yX2_bookGroup ∈ zTb := zt2 140 (by decide +kernel) (by decide +kernel)
theorem zm_2_141 : Cond.instanceMethod yX2_bookGroup ∈ zTb := zt2 141 (by decide +kernel) (by decide +kernel)
theorem zm_2_142 : Cond.selects RX2 yX2_bookGroup yX2_bookGroup ∈ zTb := zt2 142 (by decide +kernel) (by decide +kernel)
theorem zm_2_143 : Cond.code yX2_bookGroup cX2_bookGroup 6 (some .int) ∈ zTb := zt2 143 (by decide +kernel) (by decide +kernel)
theorem zm_2_144 : Cond.methodLink RX2 134 yX0_begin ∈ zTb := zt2 144 (by decide +kernel) (by decide +kernel)
theorem zm_2_145 : Cond.instanceMethod yX0_begin ∈ zTb := zt2 145 (by decide +kernel) (by decide +kernel)
theorem zm_2_146 : Cond.selects RX0 yX0_begin yX0_begin ∈ zTb := zt2 146 (by decide +kernel) (by decide +kernel)
theorem zm_2_147 : Cond.code yX0_begin cX0_begin 5 none ∈ zTb := zt2 147 (by decide +kernel) (by decide +kernel)
theorem zm_2_148 : Cond.methodLink RL 36 yX8_off ∈ zTb := zt2 148 (by decide +kernel) (by decide +kernel)
theorem zm_2_149 : Cond.instanceMethod yX8_off ∈ zTb := zt2 149 (by decide +kernel) (by decide +kernel)
theorem zm_2_150 : Cond.selects RX8 yX8_off yX8_off ∈ zTb := zt2 150 (by decide +kernel) (by decide +kernel)
theorem zm_2_151 : Cond.code yX8_off cX8_off 2 (some .int) ∈ zTb := zt2 151 (by decide +kernel) (by decide +kernel)
theorem zm_2_152 : Cond.methodLink RX8 58 yX2_callOff ∈ zTb := zt2 152 (by decide +kernel) (by decide +kernel)
theorem zm_2_153 : Cond.instanceMethod yX2_callOff ∈ zTb := zt2 153 (by decide +kernel) (by decide +kernel)
theorem zm_2_154 : Cond.selects RX2 yX2_callOff yX2_callOff ∈ zTb := zt2 154 (by decide +kernel) (by decide +kernel)
theorem zm_2_155 : Cond.code yX2_callOff cX2_callOff 3 (some .int) ∈ zTb := zt2 155 (by decide +kernel) (by decide +kernel)
theorem zm_2_156 : Cond.methodLink RX2 137 yX2_placeOfGroup ∈ zTb := zt2 156 (by decide +kernel) (by decide +kernel)
theorem zm_2_157 : Cond.instanceMethod yX2_placeOfGroup ∈ zTb := zt2 157 (by decide +kernel) (by decide +kernel)
theorem zm_2_158 : Cond.selects RX2 yX2_placeOfGroup yX2_placeOfGroup ∈ zTb := zt2 158 (by decide +kernel) (by decide +kernel)
theorem zm_2_159 : Cond.code yX2_placeOfGroup cX2_placeOfGroup 4 (some .int) ∈ zTb := zt2 159 (by decide +kernel) (by decide +kernel)
theorem zm_2_160 : Cond.methodLink RX2 141 yX2_removeGroup ∈ zTb := zt2 160 (by decide +kernel) (by decide +kernel)
theorem zm_2_162 : Cond.instanceMethod yX2_removeGroup ∈ zTb := zt2 162 (by decide +kernel) (by decide +kernel)
theorem zm_2_163 : Cond.code yX2_removeGroup cX2_removeGroup 4 none ∈ zTb := zt2 163 (by decide +kernel) (by decide +kernel)
theorem zm_2_164 : Cond.methodLink RL 40 yX8_end ∈ zTb := zt2 164 (by decide +kernel) (by decide +kernel)
theorem zm_2_165 : Cond.instanceMethod yX8_end ∈ zTb := zt2 165 (by decide +kernel) (by decide +kernel)
theorem zm_2_166 : Cond.selects RX8 yX8_end yX8_end ∈ zTb := zt2 166 (by decide +kernel) (by decide +kernel)
theorem zm_2_167 : Cond.code yX8_end cX8_end 2 (some .int) ∈ zTb := zt2 167 (by decide +kernel) (by decide +kernel)
theorem zm_2_168 : Cond.methodLink RX8 61 yX2_endDays ∈ zTb := zt2 168 (by decide +kernel) (by decide +kernel)
theorem zm_2_169 : Cond.instanceMethod yX2_endDays ∈ zTb := zt2 169 (by decide +kernel) (by decide +kernel)
theorem zm_2_170 : Cond.selects RX2 yX2_endDays yX2_endDays ∈ zTb := zt2 170 (by decide +kernel) (by decide +kernel)
theorem zm_2_171 : Cond.code yX2_endDays cX2_endDays 4 (some .int) ∈ zTb := zt2 171 (by decide +kernel) (by decide +kernel)
theorem zm_2_172 : Cond.methodLink RX2 148 yX2_endDay ∈ zTb := zt2 172 (by decide +kernel) (by decide +kernel)
theorem zm_2_173 : Cond.instanceMethod yX2_endDay ∈ zTb := zt2 173 (by decide +kernel) (by decide +kernel)
theorem zm_2_174 : Cond.selects RX2 yX2_endDay yX2_endDay ∈ zTb := zt2 174 (by decide +kernel) (by decide +kernel)
theorem zm_2_175 : Cond.code yX2_endDay cX2_endDay 4 none ∈ zTb := zt2 175 (by decide +kernel) (by decide +kernel)
theorem zm_2_176 : Cond.methodLink RX2 157 yX4_comeOn ∈ zTb := zt2 176 (by decide +kernel) (by decide +kernel)
theorem zm_2_177 : Cond.instanceMethod yX4_comeOn ∈ zTb := zt2 177 (by decide +kernel) (by decide +kernel)
theorem zm_2_178 : Cond.selects RX4 yX4_comeOn yX4_comeOn ∈ zTb := zt2 178 (by decide +kernel) (by decide +kernel)
theorem zm_2_179 : Cond.code yX4_comeOn cX4_comeOn 2 (some .boolean) ∈ zTb := zt2 179 (by decide +kernel) (by decide +kernel)
theorem zm_2_180 : Cond.methodLink RX2 161 yX2_unload ∈ zTb := zt2 180 (by decide +kernel) (by decide +kernel)
theorem zm_2_182 : Cond.instanceMethod yX2_unload ∈ zTb := zt2 182 (by decide +kernel) (by decide +kernel)
theorem zm_2_183 : Cond.code yX2_unload cX2_unload 5 none ∈ zTb := zt2 183 (by decide +kernel) (by decide +kernel)
theorem zm_2_184 : Cond.methodLink RX2 181 yX4_unload ∈ zTb := zt2 184 (by decide +kernel) (by decide +kernel)
theorem zm_2_185 : Cond.instanceMethod yX4_unload ∈ zTb := zt2 185 (by decide +kernel) (by decide +kernel)
theorem zm_2_186 : Cond.selects RX4 yX4_unload yX4_unload ∈ zTb := zt2 186 (by decide +kernel) (by decide +kernel)
theorem zm_2_187 : Cond.code yX4_unload cX4_unload 2 (some .int) ∈ zTb := zt2 187 (by decide +kernel) (by decide +kernel)
theorem zm_2_188 : Cond.methodLink RX2 186 yX7_howMany ∈ zTb := zt2 188 (by decide +kernel) (by decide +kernel)
theorem zm_2_189 : Cond.instanceMethod yX7_howMany ∈ zTb := zt2 189 (by decide +kernel) (by decide +kernel)
theorem zm_2_190 : Cond.selects RX7 yX7_howMany yX7_howMany ∈ zTb := zt2 190 (by decide +kernel) (by decide +kernel)
theorem zm_2_191 : Cond.code yX7_howMany cX7_howMany 5 (some .int) ∈ zTb := zt2 191 (by decide +kernel) (by decide +kernel)
theorem zm_2_192 : Cond.methodLink RX2 189 yJ9_min_7cf53 ∈ zTb := zt2 192 (by decide +kernel) (by decide +kernel)
theorem zm_2_193 : Cond.static yJ9_min_7cf53 ∈ zTb := zt2 193 (by decide +kernel) (by decide +kernel)
theorem zm_2_194 : Cond.code yJ9_min_7cf53 cJ9_min_7cf53 2 (some .int) ∈ zTb := zt2 194 (by decide +kernel) (by decide +kernel)
theorem zm_2_195 : Cond.methodLink RX2 194 yX7_store ∈ zTb := zt2 195 (by decide +kernel) (by decide +kernel)
theorem zm_2_196 : Cond.instanceMethod yX7_store ∈ zTb := zt2 196 (by decide +kernel) (by decide +kernel)
theorem zm_2_197 : Cond.selects RX7 yX7_store yX7_store ∈ zTb := zt2 197 (by decide +kernel) (by decide +kernel)
theorem zm_2_198 : Cond.code yX7_store cX7_store 3 none ∈ zTb := zt2 198 (by decide +kernel) (by decide +kernel)
theorem zm_2_199 : Cond.methodLink RX2 164 yX0_isThereOn ∈ zTb := zt2 199 (by decide +kernel) (by decide +kernel)
theorem zm_2_200 : Cond.instanceMethod yX0_isThereOn ∈ zTb := zt2 200 (by decide +kernel) (by decide +kernel)
theorem zm_2_201 : Cond.selects RX0 yX0_isThereOn yX0_isThereOn ∈ zTb := zt2 201 (by decide +kernel) (by decide +kernel)
theorem zm_2_202 : Cond.code yX0_isThereOn cX0_isThereOn 2 (some .boolean) ∈ zTb := zt2 202 (by decide +kernel) (by decide +kernel)
theorem zm_2_203 : Cond.methodLink RX2 168 yX2_feed ∈ zTb := zt2 203 (by decide +kernel) (by decide +kernel)
theorem zm_2_205 : Cond.instanceMethod yX2_feed ∈ zTb := zt2 205 (by decide +kernel) (by decide +kernel)
theorem zm_2_206 : Cond.code yX2_feed cX2_feed 9 none ∈ zTb := zt2 206 (by decide +kernel) (by decide +kernel)
theorem zm_2_207 : Cond.methodLink RX2 200 yX0_loavesADay ∈ zTb := zt2 207 (by decide +kernel) (by decide +kernel)
theorem zm_2_208 : Cond.instanceMethod yX0_loavesADay ∈ zTb := zt2 208 (by decide +kernel) (by decide +kernel)
theorem zm_2_209 : Cond.selects RX0 yX0_loavesADay yX0_loavesADay ∈ zTb := zt2 209 (by decide +kernel) (by decide +kernel)
theorem zm_2_210 : Cond.code yX0_loavesADay cX0_loavesADay 1 (some .int) ∈ zTb := zt2 210 (by decide +kernel) (by decide +kernel)
theorem zm_2_211 : Cond.methodLink RX2 206 yX7_take ∈ zTb := zt2 211 (by decide +kernel) (by decide +kernel)
theorem zm_2_212 : Cond.instanceMethod yX7_take ∈ zTb := zt2 212 (by decide +kernel) (by decide +kernel)
theorem zm_2_213 : Cond.selects RX7 yX7_take yX7_take ∈ zTb := zt2 213 (by decide +kernel) (by decide +kernel)
theorem zm_2_214 : Cond.code yX7_take cX7_take 7 (some .int) ∈ zTb := zt2 214 (by decide +kernel) (by decide +kernel)
theorem zm_2_215 : Cond.methodLink RX2 174 yX7_growOlder ∈ zTb := zt2 215 (by decide +kernel) (by decide +kernel)
theorem zm_2_216 : Cond.instanceMethod yX7_growOlder ∈ zTb := zt2 216 (by decide +kernel) (by decide +kernel)
theorem zm_2_217 : Cond.selects RX7 yX7_growOlder yX7_growOlder ∈ zTb := zt2 217 (by decide +kernel) (by decide +kernel)
theorem zm_2_218 : Cond.code yX7_growOlder cX7_growOlder 4 (some .int) ∈ zTb := zt2 218 (by decide +kernel) (by decide +kernel)
theorem zm_2_219 : Cond.methodLink RX2 178 yX0_isGoneBy ∈ zTb := zt2 219 (by decide +kernel) (by decide +kernel)
theorem zm_2_220 : Cond.instanceMethod yX0_isGoneBy ∈ zTb := zt2 220 (by decide +kernel) (by decide +kernel)
theorem zm_2_221 : Cond.selects RX0 yX0_isGoneBy yX0_isGoneBy ∈ zTb := zt2 221 (by decide +kernel) (by decide +kernel)
theorem zm_2_222 : Cond.code yX0_isGoneBy cX0_isGoneBy 2 (some .boolean) ∈ zTb := zt2 222 (by decide +kernel) (by decide +kernel)
theorem zm_2_223 : Cond.methodLink RL 44 yX8_set ∈ zTb := zt2 223 (by decide +kernel) (by decide +kernel)
theorem zm_2_224 : Cond.instanceMethod yX8_set ∈ zTb := zt2 224 (by decide +kernel) (by decide +kernel)
theorem zm_2_225 : Cond.selects RX8 yX8_set yX8_set ∈ zTb := zt2 225 (by decide +kernel) (by decide +kernel)
theorem zm_2_226 : Cond.code yX8_set cX8_set 3 (some .int) ∈ zTb := zt2 226 (by decide +kernel) (by decide +kernel)
theorem zm_2_227 : Cond.methodLink RX8 68 yX6_change ∈ zTb := zt2 227 (by decide +kernel) (by decide +kernel)
theorem zm_2_228 : Cond.instanceMethod yX6_change ∈ zTb := zt2 228 (by decide +kernel) (by decide +kernel)
theorem zm_2_229 : Cond.selects RX6 yX6_change yX6_change ∈ zTb := zt2 229 (by decide +kernel) (by decide +kernel)
theorem zm_2_230 : Cond.code yX6_change cX6_change 4 (some .int) ∈ zTb := zt2 230 (by decide +kernel) (by decide +kernel)
theorem zm_2_236 : Cond.constant RX6 24 (-1000001) ∈ zTb := zt2 236 (by decide +kernel) (by decide +kernel)
theorem zm_2_237 : Cond.methodLink RX6 36 yX6_tell ∈ zTb := zt2 237 (by decide +kernel) (by decide +kernel)
theorem zm_2_238 : Cond.instanceMethod yX6_tell ∈ zTb := zt2 238 (by decide +kernel) (by decide +kernel)
theorem zm_2_239 : Cond.selects RX6 yX6_tell yX6_tell ∈ zTb := zt2 239 (by decide +kernel) (by decide +kernel)
theorem zm_3_0 : Cond.code yX6_tell cX6_tell 2 (some .int) ∈ zTb := zt3 0 (by decide +kernel) (by decide +kernel)
theorem zm_3_1 : Cond.methodLink RL 48 yX8_muleOf ∈ zTb := zt3 1 (by decide +kernel) (by decide +kernel)
theorem zm_3_2 : Cond.instanceMethod yX8_muleOf ∈ zTb := zt3 2 (by decide +kernel) (by decide +kernel)
theorem zm_3_3 : Cond.selects RX8 yX8_muleOf yX8_muleOf ∈ zTb := zt3 3 (by decide +kernel) (by decide +kernel)
theorem zm_3_4 : Cond.code yX8_muleOf cX8_muleOf 4 (some .int) ∈ zTb := zt3 4 (by decide +kernel) (by decide +kernel)
theorem zm_3_5 : Cond.methodLink RX8 73 yX2_muleAt ∈ zTb := zt3 5 (by decide +kernel) (by decide +kernel)
theorem zm_3_6 : Cond.constant RX8 77 (-1000001) ∈ zTb := zt3 6 (by decide +kernel) (by decide +kernel)
theorem zm_3_7 : Cond.methodLink RX8 78 yX4_tell ∈ zTb := zt3 7 (by decide +kernel) (by decide +kernel)
theorem zm_3_8 : Cond.instanceMethod yX4_tell ∈ zTb := zt3 8 (by decide +kernel) (by decide +kernel)
theorem zm_3_9 : Cond.selects RX4 yX4_tell yX4_tell ∈ zTb := zt3 9 (by decide +kernel) (by decide +kernel)
theorem zm_3_10 : Cond.code yX4_tell cX4_tell 2 (some .int) ∈ zTb := zt3 10 (by decide +kernel) (by decide +kernel)
theorem zm_3_11 : Cond.constant RX4 39 (-1000001) ∈ zTb := zt3 11 (by decide +kernel) (by decide +kernel)
theorem zm_3_12 : Cond.methodLink RL 52 yX8_groupOf ∈ zTb := zt3 12 (by decide +kernel) (by decide +kernel)
theorem zm_3_13 : Cond.instanceMethod yX8_groupOf ∈ zTb := zt3 13 (by decide +kernel) (by decide +kernel)
theorem zm_3_14 : Cond.selects RX8 yX8_groupOf yX8_groupOf ∈ zTb := zt3 14 (by decide +kernel) (by decide +kernel)
theorem zm_3_15 : Cond.code yX8_groupOf cX8_groupOf 4 (some .int) ∈ zTb := zt3 15 (by decide +kernel) (by decide +kernel)
theorem zm_3_16 : Cond.methodLink RX8 83 yX2_placeOfGroup ∈ zTb := zt3 16 (by decide +kernel) (by decide +kernel)
theorem zm_3_17 : Cond.methodLink RX8 86 yX2_groupAt ∈ zTb := zt3 17 (by decide +kernel) (by decide +kernel)
theorem zm_3_18 : Cond.methodLink RX8 94 yX0_tell ∈ zTb := zt3 18 (by decide +kernel) (by decide +kernel)
theorem zm_3_19 : Cond.instanceMethod yX0_tell ∈ zTb := zt3 19 (by decide +kernel) (by decide +kernel)
theorem zm_3_20 : Cond.selects RX0 yX0_tell yX0_tell ∈ zTb := zt3 20 (by decide +kernel) (by decide +kernel)
theorem zm_3_21 : Cond.code yX0_tell cX0_tell 3 (some .int) ∈ zTb := zt3 21 (by decide +kernel) (by decide +kernel)
theorem zm_3_22 : Cond.methodLink RX0 30 yX0_loavesADay ∈ zTb := zt3 22 (by decide +kernel) (by decide +kernel)
theorem zm_3_23 : Cond.methodLink RX0 34 yX0_isThereOn ∈ zTb := zt3 23 (by decide +kernel) (by decide +kernel)
theorem zm_3_24 : Cond.constant RX0 38 (-1000001) ∈ zTb := zt3 24 (by decide +kernel) (by decide +kernel)
theorem zm_3_25 : Cond.methodLink RL 56 yX8_number ∈ zTb := zt3 25 (by decide +kernel) (by decide +kernel)
theorem zm_3_26 : Cond.instanceMethod yX8_number ∈ zTb := zt3 26 (by decide +kernel) (by decide +kernel)
theorem zm_3_27 : Cond.selects RX8 yX8_number yX8_number ∈ zTb := zt3 27 (by decide +kernel) (by decide +kernel)
theorem zm_3_28 : Cond.code yX8_number cX8_number 3 (some .int) ∈ zTb := zt3 28 (by decide +kernel) (by decide +kernel)
theorem zm_3_29 : Cond.constant RX8 98 (-1000004) ∈ zTb := zt3 29 (by decide +kernel) (by decide +kernel)
theorem zm_3_30 : Cond.methodLink RL 60 yX8_loaves ∈ zTb := zt3 30 (by decide +kernel) (by decide +kernel)
theorem zm_3_31 : Cond.instanceMethod yX8_loaves ∈ zTb := zt3 31 (by decide +kernel) (by decide +kernel)
theorem zm_3_32 : Cond.selects RX8 yX8_loaves yX8_loaves ∈ zTb := zt3 32 (by decide +kernel) (by decide +kernel)
theorem zm_3_33 : Cond.code yX8_loaves cX8_loaves 2 (some .int) ∈ zTb := zt3 33 (by decide +kernel) (by decide +kernel)
theorem zm_3_34 : Cond.methodLink RX8 102 yX8_isWithin ∈ zTb := zt3 34 (by decide +kernel) (by decide +kernel)
theorem zm_3_35 : Cond.methodLink RX8 110 yX7_howMany ∈ zTb := zt3 35 (by decide +kernel) (by decide +kernel)
theorem zm_3_36 : Cond.methodLink RL 64 yX8_why ∈ zTb := zt3 36 (by decide +kernel) (by decide +kernel)
theorem zm_3_37 : Cond.instanceMethod yX8_why ∈ zTb := zt3 37 (by decide +kernel) (by decide +kernel)
theorem zm_3_38 : Cond.selects RX8 yX8_why yX8_why ∈ zTb := zt3 38 (by decide +kernel) (by decide +kernel)
theorem zm_3_39 : Cond.code yX8_why cX8_why 3 (some .int) ∈ zTb := zt3 39 (by decide +kernel) (by decide +kernel)
theorem zm_3_40 : Cond.methodLink RX8 115 yX2_whyNot ∈ zTb := zt3 40 (by decide +kernel) (by decide +kernel)
theorem zm_3_41 : Cond.methodLink RL 68 yX8_wanted ∈ zTb := zt3 41 (by decide +kernel) (by decide +kernel)
theorem zm_3_42 : Cond.instanceMethod yX8_wanted ∈ zTb := zt3 42 (by decide +kernel) (by decide +kernel)
theorem zm_3_43 : Cond.selects RX8 yX8_wanted yX8_wanted ∈ zTb := zt3 43 (by decide +kernel) (by decide +kernel)
theorem zm_3_44 : Cond.code yX8_wanted cX8_wanted 2 (some .int) ∈ zTb := zt3 44 (by decide +kernel) (by decide +kernel)
theorem zm_3_45 : Cond.methodLink RX8 118 yX2_wantedOn ∈ zTb := zt3 45 (by decide +kernel) (by decide +kernel)
theorem zm_3_46 : Cond.instanceMethod yX2_wantedOn ∈ zTb := zt3 46 (by decide +kernel) (by decide +kernel)
theorem zm_3_47 : Cond.selects RX2 yX2_wantedOn yX2_wantedOn ∈ zTb := zt3 47 (by decide +kernel) (by decide +kernel)
theorem zm_3_48 : Cond.code yX2_wantedOn cX2_wantedOn 5 (some .int) ∈ zTb := zt3 48 (by decide +kernel) (by decide +kernel)
theorem zm_3_49 : Cond.methodLink RL 72 yX8_hungry ∈ zTb := zt3 49 (by decide +kernel) (by decide +kernel)
theorem zm_3_50 : Cond.instanceMethod yX8_hungry ∈ zTb := zt3 50 (by decide +kernel) (by decide +kernel)
theorem zm_3_51 : Cond.selects RX8 yX8_hungry yX8_hungry ∈ zTb := zt3 51 (by decide +kernel) (by decide +kernel)
theorem zm_3_52 : Cond.code yX8_hungry cX8_hungry 2 (some .int) ∈ zTb := zt3 52 (by decide +kernel) (by decide +kernel)
theorem zm_3_53 : Cond.methodLink RX8 121 yX2_endDay ∈ zTb := zt3 53 (by decide +kernel) (by decide +kernel)
theorem zm_3_54 : Cond.methodLink RL 77 yX8_next ∈ zTb := zt3 54 (by decide +kernel) (by decide +kernel)
theorem zm_3_55 : Cond.instanceMethod yX8_next ∈ zTb := zt3 55 (by decide +kernel) (by decide +kernel)
theorem zm_3_56 : Cond.selects RX8 yX8_next yX8_next ∈ zTb := zt3 56 (by decide +kernel) (by decide +kernel)
theorem zm_3_57 : Cond.code yX8_next cX8_next 4 (some .int) ∈ zTb := zt3 57 (by decide +kernel) (by decide +kernel)
theorem zm_3_58 : Cond.methodLink RX8 133 yX2_bestMule ∈ zTb := zt3 58 (by decide +kernel) (by decide +kernel)
theorem zm_3_59 : Cond.instanceMethod yX2_bestMule ∈ zTb := zt3 59 (by decide +kernel) (by decide +kernel)
theorem zm_3_60 : Cond.selects RX2 yX2_bestMule yX2_bestMule ∈ zTb := zt3 60 (by decide +kernel) (by decide +kernel)
theorem zm_3_61 : Cond.code yX2_bestMule cX2_bestMule 5 (some .int) ∈ zTb := zt3 61 (by decide +kernel) (by decide +kernel)
theorem zm_3_62 : Cond.methodLink RX2 223 yX4_goesAheadOf ∈ zTb := zt3 62 (by decide +kernel) (by decide +kernel)
theorem zm_3_63 : Cond.instanceMethod yX4_goesAheadOf ∈ zTb := zt3 63 (by decide +kernel) (by decide +kernel)
theorem zm_3_64 : Cond.selects RX4 yX4_goesAheadOf yX4_goesAheadOf ∈ zTb := zt3 64 (by decide +kernel) (by decide +kernel)
theorem zm_3_65 : Cond.code yX4_goesAheadOf cX4_goesAheadOf 2 (some .boolean) ∈ zTb := zt3 65 (by decide +kernel) (by decide +kernel)
theorem zm_3_66 : Cond.methodLink RX8 140 yX2_loavesOnCredit ∈ zTb := zt3 66 (by decide +kernel) (by decide +kernel)
theorem zm_3_67 : Cond.instanceMethod yX2_loavesOnCredit ∈ zTb := zt3 67 (by decide +kernel) (by decide +kernel)
theorem zm_3_68 : Cond.selects RX2 yX2_loavesOnCredit yX2_loavesOnCredit ∈ zTb := zt3 68 (by decide +kernel) (by decide +kernel)
theorem zm_3_69 : Cond.code yX2_loavesOnCredit cX2_loavesOnCredit 2 (some .int) ∈ zTb := zt3 69 (by decide +kernel) (by decide +kernel)
theorem zm_3_70 : Cond.methodLink RX8 143 yJ9_min_7cf53 ∈ zTb := zt3 70 (by decide +kernel) (by decide +kernel)
theorem zm_3_71 : Cond.methodLink RL 81 yX8_would ∈ zTb := zt3 71 (by decide +kernel) (by decide +kernel)
theorem zm_3_72 : Cond.instanceMethod yX8_would ∈ zTb := zt3 72 (by decide +kernel) (by decide +kernel)
theorem zm_3_73 : Cond.selects RX8 yX8_would yX8_would ∈ zTb := zt3 73 (by decide +kernel) (by decide +kernel)
theorem zm_3_74 : Cond.code yX8_would cX8_would 4 (some .int) ∈ zTb := zt3 74 (by decide +kernel) (by decide +kernel)
theorem zm_3_75 : Cond.methodLink RX8 154 yX3_wasted ∈ zTb := zt3 75 (by decide +kernel) (by decide +kernel)
theorem zm_3_76 : Cond.instanceMethod yX3_wasted ∈ zTb := zt3 76 (by decide +kernel) (by decide +kernel)
theorem zm_3_77 : Cond.selects RX3 yX3_wasted yX3_wasted ∈ zTb := zt3 77 (by decide +kernel) (by decide +kernel)
theorem zm_3_78 : Cond.code yX3_wasted cX3_wasted 1 (some .int) ∈ zTb := zt3 78 (by decide +kernel) (by decide +kernel)
theorem zm_3_79 : Cond.methodLink RL 85 yX8_mean ∈ zTb := zt3 79 (by decide +kernel) (by decide +kernel)
theorem zm_3_80 : Cond.instanceMethod yX8_mean ∈ zTb := zt3 80 (by decide +kernel) (by decide +kernel)
theorem zm_3_81 : Cond.selects RX8 yX8_mean yX8_mean ∈ zTb := zt3 81 (by decide +kernel) (by decide +kernel)
theorem zm_3_82 : Cond.code yX8_mean cX8_mean 2 (some .int) ∈ zTb := zt3 82 (by decide +kernel) (by decide +kernel)
theorem zm_3_83 : Cond.methodLink RX8 157 yX7_agesTogether ∈ zTb := zt3 83 (by decide +kernel) (by decide +kernel)
theorem zm_3_84 : Cond.instanceMethod yX7_agesTogether ∈ zTb := zt3 84 (by decide +kernel) (by decide +kernel)
theorem zm_3_85 : Cond.selects RX7 yX7_agesTogether yX7_agesTogether ∈ zTb := zt3 85 (by decide +kernel) (by decide +kernel)
theorem zm_3_86 : Cond.code yX7_agesTogether cX7_agesTogether 3 (some .int) ∈ zTb := zt3 86 (by decide +kernel) (by decide +kernel)
theorem zm_3_87 : Cond.methodLink RX8 160 yX8_bitsOf ∈ zTb := zt3 87 (by decide +kernel) (by decide +kernel)
theorem zm_3_88 : Cond.static yX8_bitsOf ∈ zTb := zt3 88 (by decide +kernel) (by decide +kernel)
theorem zm_3_89 : Cond.code yX8_bitsOf cX8_bitsOf 4 (some .int) ∈ zTb := zt3 89 (by decide +kernel) (by decide +kernel)
theorem zm_3_90 : Cond.constantFloat RX8 199 1258291200 ∈ zTb := zt3 90 (by decide +kernel) (by decide +kernel)
theorem zm_3_91 : Cond.methodLink RL 89 yX8_count ∈ zTb := zt3 91 (by decide +kernel) (by decide +kernel)
theorem zm_3_92 : Cond.instanceMethod yX8_count ∈ zTb := zt3 92 (by decide +kernel) (by decide +kernel)
theorem zm_3_93 : Cond.selects RX8 yX8_count yX8_count ∈ zTb := zt3 93 (by decide +kernel) (by decide +kernel)
theorem zm_3_94 : Cond.code yX8_count cX8_count 2 (some .int) ∈ zTb := zt3 94 (by decide +kernel) (by decide +kernel)
theorem zm_3_95 : Cond.methodLink RX8 170 yX2_tell ∈ zTb := zt3 95 (by decide +kernel) (by decide +kernel)
theorem zm_3_96 : Cond.instanceMethod yX2_tell ∈ zTb := zt3 96 (by decide +kernel) (by decide +kernel)
theorem zm_3_97 : Cond.selects RX2 yX2_tell yX2_tell ∈ zTb := zt3 97 (by decide +kernel) (by decide +kernel)
theorem zm_3_98 : Cond.code yX2_tell cX2_tell 2 (some .int) ∈ zTb := zt3 98 (by decide +kernel) (by decide +kernel)
theorem zm_3_99 : Cond.methodLink RX2 230 yX2_loavesOnTheirWayUp ∈ zTb := zt3 99 (by decide +kernel) (by decide +kernel)
theorem zm_3_100 : Cond.instanceMethod yX2_loavesOnTheirWayUp ∈ zTb := zt3 100 (by decide +kernel) (by decide +kernel)
theorem zm_3_101 : Cond.selects RX2 yX2_loavesOnTheirWayUp yX2_loavesOnTheirWayUp ∈ zTb := zt3 101 (by decide +kernel) (by decide +kernel)
theorem zm_3_102 : Cond.code yX2_loavesOnTheirWayUp cX2_loavesOnTheirWayUp 4 (some .int) ∈ zTb := zt3 102 (by decide +kernel) (by decide +kernel)
theorem zm_3_103 : Cond.methodLink RX2 233 yX6_tell ∈ zTb := zt3 103 (by decide +kernel) (by decide +kernel)
theorem zm_3_104 : Cond.methodLink RL 93 yX8_undo ∈ zTb := zt3 104 (by decide +kernel) (by decide +kernel)
theorem zm_3_105 : Cond.instanceMethod yX8_undo ∈ zTb := zt3 105 (by decide +kernel) (by decide +kernel)
theorem zm_3_106 : Cond.selects RX8 yX8_undo yX8_undo ∈ zTb := zt3 106 (by decide +kernel) (by decide +kernel)
theorem zm_3_107 : Cond.code yX8_undo cX8_undo 2 (some .int) ∈ zTb := zt3 107 (by decide +kernel) (by decide +kernel)
theorem zm_3_108 : Cond.methodLink RX8 171 yX1_takeLatest ∈ zTb := zt3 108 (by decide +kernel) (by decide +kernel)
theorem zm_3_109 : Cond.instanceMethod yX1_takeLatest ∈ zTb := zt3 109 (by decide +kernel) (by decide +kernel)
theorem zm_3_110 : Cond.selects RX1 yX1_takeLatest yX1_takeLatest ∈ zTb := zt3 110 (by decide +kernel) (by decide +kernel)
theorem zm_3_111 : Cond.code yX1_takeLatest cX1_takeLatest 1 (some (.object "HutLoaves$Hut")) ∈ zTb := zt3 111 (by decide +kernel) (by decide +kernel)
theorem zm_3_112 : Cond.constant RX8 175 (-1000002) ∈ zTb := zt3 112 (by decide +kernel) (by decide +kernel)
theorem zm_3_113 : Cond.methodLink RL 97 yX8_type ∈ zTb := zt3 113 (by decide +kernel) (by decide +kernel)
theorem zm_3_114 : Cond.instanceMethod yX8_type ∈ zTb := zt3 114 (by decide +kernel) (by decide +kernel)
theorem zm_3_115 : Cond.selects RX8 yX8_type yX8_type ∈ zTb := zt3 115 (by decide +kernel) (by decide +kernel)
theorem zm_3_116 : Cond.code yX8_type cX8_type 2 (some .int) ∈ zTb := zt3 116 (by decide +kernel) (by decide +kernel)
theorem zm_3_117 : Cond.methodLink RX8 176 yX5_append ∈ zTb := zt3 117 (by decide +kernel) (by decide +kernel)
theorem zm_3_118 : Cond.instanceMethod yX5_append ∈ zTb := zt3 118 (by decide +kernel) (by decide +kernel)
theorem zm_3_119 : Cond.selects RX5 yX5_append yX5_append ∈ zTb := zt3 119 (by decide +kernel) (by decide +kernel)
theorem zm_3_120 : Cond.code yX5_append cX5_append 2 (some .int) ∈ zTb := zt3 120 (by decide +kernel) (by decide +kernel)
theorem zm_3_121 : Cond.constant RX5 23 (-1000003) ∈ zTb := zt3 121 (by decide +kernel) (by decide +kernel)
theorem zm_3_122 : Cond.methodLink RL 101 yX8_clearText ∈ zTb := zt3 122 (by decide +kernel) (by decide +kernel)
theorem zm_3_123 : Cond.instanceMethod yX8_clearText ∈ zTb := zt3 123 (by decide +kernel) (by decide +kernel)
theorem zm_3_124 : Cond.selects RX8 yX8_clearText yX8_clearText ∈ zTb := zt3 124 (by decide +kernel) (by decide +kernel)
theorem zm_3_125 : Cond.code yX8_clearText cX8_clearText 1 (some .int) ∈ zTb := zt3 125 (by decide +kernel) (by decide +kernel)
theorem zm_3_126 : Cond.methodLink RX8 180 yX5_empty ∈ zTb := zt3 126 (by decide +kernel) (by decide +kernel)
theorem zm_3_127 : Cond.instanceMethod yX5_empty ∈ zTb := zt3 127 (by decide +kernel) (by decide +kernel)
theorem zm_3_128 : Cond.selects RX5 yX5_empty yX5_empty ∈ zTb := zt3 128 (by decide +kernel) (by decide +kernel)
theorem zm_3_129 : Cond.code yX5_empty cX5_empty 2 (some .int) ∈ zTb := zt3 129 (by decide +kernel) (by decide +kernel)
theorem zm_3_130 : Cond.methodLink RL 105 yX8_fault ∈ zTb := zt3 130 (by decide +kernel) (by decide +kernel)
theorem zm_3_131 : Cond.instanceMethod yX8_fault ∈ zTb := zt3 131 (by decide +kernel) (by decide +kernel)
theorem zm_3_132 : Cond.selects RX8 yX8_fault yX8_fault ∈ zTb := zt3 132 (by decide +kernel) (by decide +kernel)
theorem zm_3_133 : Cond.code yX8_fault cX8_fault 2 (some .int) ∈ zTb := zt3 133 (by decide +kernel) (by decide +kernel)
theorem zm_3_134 : Cond.methodLink RX8 183 yX5_rehearse ∈ zTb := zt3 134 (by decide +kernel) (by decide +kernel)
theorem zm_3_135 : Cond.instanceMethod yX5_rehearse ∈ zTb := zt3 135 (by decide +kernel) (by decide +kernel)
theorem zm_3_136 : Cond.selects RX5 yX5_rehearse yX5_rehearse ∈ zTb := zt3 136 (by decide +kernel) (by decide +kernel)
theorem zm_3_137 : Cond.code yX5_rehearse cX5_rehearse 5 (some .int) ∈ zTb := zt3 137 (by decide +kernel) (by decide +kernel)
theorem zm_3_138 : Cond.methodLink RX5 33 yX5_readOrder ∈ zTb := zt3 138 (by decide +kernel) (by decide +kernel)
theorem zm_3_140 : Cond.instanceMethod yX5_readOrder ∈ zTb := zt3 140 (by decide +kernel) (by decide +kernel)
theorem zm_3_141 : Cond.code yX5_readOrder cX5_readOrder 3 (some .boolean) ∈ zTb := zt3 141 (by decide +kernel) (by decide +kernel)
theorem zm_3_142 : Cond.methodLink RX5 44 yX5_signAt ∈ zTb := zt3 142 (by decide +kernel) (by decide +kernel)
theorem zm_3_144 : Cond.instanceMethod yX5_signAt ∈ zTb := zt3 144 (by decide +kernel) (by decide +kernel)
theorem zm_3_145 : Cond.code yX5_signAt cX5_signAt 2 (some .int) ∈ zTb := zt3 145 (by decide +kernel) (by decide +kernel)
theorem zm_3_146 : Cond.methodLink RX5 70 yX5_partsOf ∈ zTb := zt3 146 (by decide +kernel) (by decide +kernel)
theorem zm_3_147 : Cond.static yX5_partsOf ∈ zTb := zt3 147 (by decide +kernel) (by decide +kernel)
theorem zm_3_148 : Cond.code yX5_partsOf cX5_partsOf 1 (some .int) ∈ zTb := zt3 148 (by decide +kernel) (by decide +kernel)
theorem zm_3_149 : Cond.methodLink RX5 73 yX5_readNumber ∈ zTb := zt3 149 (by decide +kernel) (by decide +kernel)
theorem zm_3_151 : Cond.instanceMethod yX5_readNumber ∈ zTb := zt3 151 (by decide +kernel) (by decide +kernel)
theorem zm_3_152 : Cond.code yX5_readNumber cX5_readNumber 4 (some .boolean) ∈ zTb := zt3 152 (by decide +kernel) (by decide +kernel)
theorem zm_3_154 : Cond.methodLink RX5 40 yX5_perform ∈ zTb := zt3 154 (by decide +kernel) (by decide +kernel)
theorem zm_3_156 : Cond.instanceMethod yX5_perform ∈ zTb := zt3 156 (by decide +kernel) (by decide +kernel)
theorem zm_3_157 : Cond.code yX5_perform cX5_perform 2 (some .int) ∈ zTb := zt3 157 (by decide +kernel) (by decide +kernel)
theorem zm_3_158 : Cond.methodLink RX5 48 yX5_numberAt ∈ zTb := zt3 158 (by decide +kernel) (by decide +kernel)
theorem zm_3_160 : Cond.instanceMethod yX5_numberAt ∈ zTb := zt3 160 (by decide +kernel) (by decide +kernel)
theorem zm_3_161 : Cond.code yX5_numberAt cX5_numberAt 2 (some .int) ∈ zTb := zt3 161 (by decide +kernel) (by decide +kernel)
theorem zm_3_162 : Cond.methodLink RX5 51 yX2_sendMule ∈ zTb := zt3 162 (by decide +kernel) (by decide +kernel)
theorem zm_3_163 : Cond.methodLink RX5 57 yX2_bookGroup ∈ zTb := zt3 163 (by decide +kernel) (by decide +kernel)
theorem zm_3_164 : Cond.methodLink RX5 61 yX2_callOff ∈ zTb := zt3 164 (by decide +kernel) (by decide +kernel)
theorem zm_3_165 : Cond.methodLink RX5 64 yX2_payBaker ∈ zTb := zt3 165 (by decide +kernel) (by decide +kernel)
theorem zm_3_166 : Cond.methodLink RX5 67 yX2_endDays ∈ zTb := zt3 166 (by decide +kernel) (by decide +kernel)
theorem zm_3_167 : Cond.methodLink RL 109 yX8_play ∈ zTb := zt3 167 (by decide +kernel) (by decide +kernel)
theorem zm_3_168 : Cond.instanceMethod yX8_play ∈ zTb := zt3 168 (by decide +kernel) (by decide +kernel)
theorem zm_3_169 : Cond.selects RX8 yX8_play yX8_play ∈ zTb := zt3 169 (by decide +kernel) (by decide +kernel)
theorem zm_3_170 : Cond.code yX8_play cX8_play 2 (some .int) ∈ zTb := zt3 170 (by decide +kernel) (by decide +kernel)
theorem zm_3_171 : Cond.classLink RL 10 RX9 ∈ zTb := zt3 171 (by decide +kernel) (by decide +kernel)
theorem zm_3_172 : Cond.instantiable RX9 15 ∈ zTb := zt3 172 (by decide +kernel) (by decide +kernel)
theorem zm_3_173 : Cond.methodLink RL 12 yX9_init ∈ zTb := zt3 173 (by decide +kernel) (by decide +kernel)
theorem zm_3_174 : Cond.instanceMethod yX9_init ∈ zTb := zt3 174 (by decide +kernel) (by decide +kernel)
theorem zm_3_175 : Cond.code yX9_init cX9_init 1 none ∈ zTb := zt3 175 (by decide +kernel) (by decide +kernel)
theorem zm_3_176 : Cond.methodLink RX9 1 objectInit ∈ zTb := zt3 176 (by decide +kernel) (by decide +kernel)
theorem zm_3_177 : Cond.fieldLink RX9 7 "HutLoavesModel" "s" "[I" ∈ zTb := zt3 177 (by decide +kernel) (by decide +kernel)
theorem zm_3_178 : Cond.fieldLink RX9 13 "HutLoavesModel" "past" "[I" ∈ zTb := zt3 178 (by decide +kernel) (by decide +kernel)
theorem zm_3_179 : Cond.fieldLink RX9 16 "HutLoavesModel" "held" "[I" ∈ zTb := zt3 179 (by decide +kernel) (by decide +kernel)
theorem zm_3_180 : Cond.fieldLink RX9 19 "HutLoavesModel" "tried" "[I" ∈ zTb := zt3 180 (by decide +kernel) (by decide +kernel)
theorem zm_3_181 : Cond.fieldLink RX9 32 "HutLoavesModel" "pasts" "I" ∈ zTb := zt3 181 (by decide +kernel) (by decide +kernel)
theorem zm_3_182 : Cond.fieldLink RX9 28 "HutLoavesModel" "runs" "Z" ∈ zTb := zt3 182 (by decide +kernel) (by decide +kernel)
theorem zm_3_183 : Cond.fieldLink RX9 22 "HutLoavesModel" "text" "[I" ∈ zTb := zt3 183 (by decide +kernel) (by decide +kernel)
theorem zm_3_184 : Cond.fieldLink RX9 133 "HutLoavesModel" "typed" "I" ∈ zTb := zt3 184 (by decide +kernel) (by decide +kernel)
theorem zm_3_185 : Cond.fieldLink RX9 136 "HutLoavesModel" "spot" "I" ∈ zTb := zt3 185 (by decide +kernel) (by decide +kernel)
theorem zm_3_186 : Cond.fieldLink RX9 170 "HutLoavesModel" "from" "I" ∈ zTb := zt3 186 (by decide +kernel) (by decide +kernel)
theorem zm_3_187 : Cond.fieldLink RX9 183 "HutLoavesModel" "reason" "I" ∈ zTb := zt3 187 (by decide +kernel) (by decide +kernel)
theorem zm_3_188 : Cond.fieldLink RX9 186 "HutLoavesModel" "cause" "I" ∈ zTb := zt3 188 (by decide +kernel) (by decide +kernel)
theorem zm_3_189 : Cond.fieldLink RX9 173 "HutLoavesModel" "orders" "I" ∈ zTb := zt3 189 (by decide +kernel) (by decide +kernel)
theorem zm_3_190 : Cond.fieldLink RX9 142 "HutLoavesModel" "order" "I" ∈ zTb := zt3 190 (by decide +kernel) (by decide +kernel)
theorem zm_3_191 : Cond.fieldLink RX9 25 "HutLoavesModel" "numbers" "[I" ∈ zTb := zt3 191 (by decide +kernel) (by decide +kernel)
theorem zm_3_223 : Cond.methodLink RL 17 yX9_mule ∈ zTb := zt3 223 (by decide +kernel) (by decide +kernel)
theorem zm_3_224 : Cond.instanceMethod yX9_mule ∈ zTb := zt3 224 (by decide +kernel) (by decide +kernel)
theorem zm_3_225 : Cond.selects RX9 yX9_mule yX9_mule ∈ zTb := zt3 225 (by decide +kernel) (by decide +kernel)
theorem zm_3_226 : Cond.code yX9_mule cX9_mule 5 (some .int) ∈ zTb := zt3 226 (by decide +kernel) (by decide +kernel)
theorem zm_3_227 : Cond.methodLink RX9 65 yX9_in ∈ zTb := zt3 227 (by decide +kernel) (by decide +kernel)
theorem zm_3_228 : Cond.static yX9_in ∈ zTb := zt3 228 (by decide +kernel) (by decide +kernel)
theorem zm_3_229 : Cond.code yX9_in cX9_in 3 (some .boolean) ∈ zTb := zt3 229 (by decide +kernel) (by decide +kernel)
theorem zm_3_230 : Cond.constant RX9 95 (-1000001) ∈ zTb := zt3 230 (by decide +kernel) (by decide +kernel)
theorem zm_3_231 : Cond.constant RX9 96 (-1000003) ∈ zTb := zt3 231 (by decide +kernel) (by decide +kernel)
theorem zm_3_232 : Cond.methodLink RX9 97 yX9_changes ∈ zTb := zt3 232 (by decide +kernel) (by decide +kernel)
theorem zm_3_234 : Cond.instanceMethod yX9_changes ∈ zTb := zt3 234 (by decide +kernel) (by decide +kernel)
theorem zm_3_235 : Cond.code yX9_changes cX9_changes 2 none ∈ zTb := zt3 235 (by decide +kernel) (by decide +kernel)
theorem zm_3_236 : Cond.methodLink RX9 47 yX9_sets ∈ zTb := zt3 236 (by decide +kernel) (by decide +kernel)
theorem zm_3_238 : Cond.instanceMethod yX9_sets ∈ zTb := zt3 238 (by decide +kernel) (by decide +kernel)
theorem zm_3_239 : Cond.code yX9_sets cX9_sets 4 none ∈ zTb := zt3 239 (by decide +kernel) (by decide +kernel)
theorem zm_4_0 : Cond.methodLink RL 21 yX9_send ∈ zTb := zt4 0 (by decide +kernel) (by decide +kernel)
theorem zm_4_1 : Cond.instanceMethod yX9_send ∈ zTb := zt4 1 (by decide +kernel) (by decide +kernel)
theorem zm_4_2 : Cond.selects RX9 yX9_send yX9_send ∈ zTb := zt4 2 (by decide +kernel) (by decide +kernel)
theorem zm_4_3 : Cond.code yX9_send cX9_send 3 (some .int) ∈ zTb := zt4 3 (by decide +kernel) (by decide +kernel)
theorem zm_4_4 : Cond.methodLink RX9 100 yX9_isMule ∈ zTb := zt4 4 (by decide +kernel) (by decide +kernel)
theorem zm_4_6 : Cond.instanceMethod yX9_isMule ∈ zTb := zt4 6 (by decide +kernel) (by decide +kernel)
theorem zm_4_7 : Cond.code yX9_isMule cX9_isMule 2 (some .boolean) ∈ zTb := zt4 7 (by decide +kernel) (by decide +kernel)
theorem zm_4_8 : Cond.methodLink RX9 104 yX9_whyNot ∈ zTb := zt4 8 (by decide +kernel) (by decide +kernel)
theorem zm_4_10 : Cond.instanceMethod yX9_whyNot ∈ zTb := zt4 10 (by decide +kernel) (by decide +kernel)
theorem zm_4_11 : Cond.code yX9_whyNot cX9_whyNot 3 (some .int) ∈ zTb := zt4 11 (by decide +kernel) (by decide +kernel)
theorem zm_4_12 : Cond.methodLink RX9 44 yX9_of ∈ zTb := zt4 12 (by decide +kernel) (by decide +kernel)
theorem zm_4_14 : Cond.instanceMethod yX9_of ∈ zTb := zt4 14 (by decide +kernel) (by decide +kernel)
theorem zm_4_15 : Cond.code yX9_of cX9_of 3 (some .int) ∈ zTb := zt4 15 (by decide +kernel) (by decide +kernel)
theorem zm_4_16 : Cond.constant RX9 107 (-1000002) ∈ zTb := zt4 16 (by decide +kernel) (by decide +kernel)
theorem zm_4_17 : Cond.methodLink RL 26 yX9_rest ∈ zTb := zt4 17 (by decide +kernel) (by decide +kernel)
theorem zm_4_18 : Cond.instanceMethod yX9_rest ∈ zTb := zt4 18 (by decide +kernel) (by decide +kernel)
theorem zm_4_19 : Cond.selects RX9 yX9_rest yX9_rest ∈ zTb := zt4 19 (by decide +kernel) (by decide +kernel)
theorem zm_4_20 : Cond.code yX9_rest cX9_rest 3 (some .int) ∈ zTb := zt4 20 (by decide +kernel) (by decide +kernel)
theorem zm_4_21 : Cond.methodLink RL 30 yX9_pay ∈ zTb := zt4 21 (by decide +kernel) (by decide +kernel)
theorem zm_4_22 : Cond.instanceMethod yX9_pay ∈ zTb := zt4 22 (by decide +kernel) (by decide +kernel)
theorem zm_4_23 : Cond.selects RX9 yX9_pay yX9_pay ∈ zTb := zt4 23 (by decide +kernel) (by decide +kernel)
theorem zm_4_24 : Cond.code yX9_pay cX9_pay 2 (some .int) ∈ zTb := zt4 24 (by decide +kernel) (by decide +kernel)
theorem zm_4_25 : Cond.methodLink RL 35 yX9_group ∈ zTb := zt4 25 (by decide +kernel) (by decide +kernel)
theorem zm_4_26 : Cond.instanceMethod yX9_group ∈ zTb := zt4 26 (by decide +kernel) (by decide +kernel)
theorem zm_4_27 : Cond.selects RX9 yX9_group yX9_group ∈ zTb := zt4 27 (by decide +kernel) (by decide +kernel)
theorem zm_4_28 : Cond.code yX9_group cX9_group 6 (some .int) ∈ zTb := zt4 28 (by decide +kernel) (by decide +kernel)
theorem zm_4_29 : Cond.methodLink RL 39 yX9_off ∈ zTb := zt4 29 (by decide +kernel) (by decide +kernel)
theorem zm_4_30 : Cond.instanceMethod yX9_off ∈ zTb := zt4 30 (by decide +kernel) (by decide +kernel)
theorem zm_4_31 : Cond.selects RX9 yX9_off yX9_off ∈ zTb := zt4 31 (by decide +kernel) (by decide +kernel)
theorem zm_4_32 : Cond.code yX9_off cX9_off 3 (some .int) ∈ zTb := zt4 32 (by decide +kernel) (by decide +kernel)
theorem zm_4_33 : Cond.methodLink RX9 108 yX9_placeOf ∈ zTb := zt4 33 (by decide +kernel) (by decide +kernel)
theorem zm_4_35 : Cond.instanceMethod yX9_placeOf ∈ zTb := zt4 35 (by decide +kernel) (by decide +kernel)
theorem zm_4_36 : Cond.code yX9_placeOf cX9_placeOf 3 (some .int) ∈ zTb := zt4 36 (by decide +kernel) (by decide +kernel)
theorem zm_4_37 : Cond.methodLink RX9 36 yX9_ofGroup ∈ zTb := zt4 37 (by decide +kernel) (by decide +kernel)
theorem zm_4_39 : Cond.instanceMethod yX9_ofGroup ∈ zTb := zt4 39 (by decide +kernel) (by decide +kernel)
theorem zm_4_40 : Cond.code yX9_ofGroup cX9_ofGroup 3 (some .int) ∈ zTb := zt4 40 (by decide +kernel) (by decide +kernel)
theorem zm_4_41 : Cond.constant RX9 40 (-1000004) ∈ zTb := zt4 41 (by decide +kernel) (by decide +kernel)
theorem zm_4_42 : Cond.methodLink RX9 89 yX9_goes ∈ zTb := zt4 42 (by decide +kernel) (by decide +kernel)
theorem zm_4_44 : Cond.instanceMethod yX9_goes ∈ zTb := zt4 44 (by decide +kernel) (by decide +kernel)
theorem zm_4_45 : Cond.code yX9_goes cX9_goes 3 none ∈ zTb := zt4 45 (by decide +kernel) (by decide +kernel)
theorem zm_4_46 : Cond.methodLink RL 43 yX9_end ∈ zTb := zt4 46 (by decide +kernel) (by decide +kernel)
theorem zm_4_47 : Cond.instanceMethod yX9_end ∈ zTb := zt4 47 (by decide +kernel) (by decide +kernel)
theorem zm_4_48 : Cond.selects RX9 yX9_end yX9_end ∈ zTb := zt4 48 (by decide +kernel) (by decide +kernel)
theorem zm_4_49 : Cond.code yX9_end cX9_end 2 (some .int) ∈ zTb := zt4 49 (by decide +kernel) (by decide +kernel)
theorem zm_4_50 : Cond.methodLink RX9 111 yX9_endsFor ∈ zTb := zt4 50 (by decide +kernel) (by decide +kernel)
theorem zm_4_52 : Cond.instanceMethod yX9_endsFor ∈ zTb := zt4 52 (by decide +kernel) (by decide +kernel)
theorem zm_4_53 : Cond.code yX9_endsFor cX9_endsFor 4 (some .int) ∈ zTb := zt4 53 (by decide +kernel) (by decide +kernel)
theorem zm_4_54 : Cond.methodLink RX9 92 yX9_ends ∈ zTb := zt4 54 (by decide +kernel) (by decide +kernel)
theorem zm_4_56 : Cond.instanceMethod yX9_ends ∈ zTb := zt4 56 (by decide +kernel) (by decide +kernel)
theorem zm_4_57 : Cond.code yX9_ends cX9_ends 4 none ∈ zTb := zt4 57 (by decide +kernel) (by decide +kernel)
theorem zm_4_58 : Cond.methodLink RX9 79 yX9_comesOn ∈ zTb := zt4 58 (by decide +kernel) (by decide +kernel)
theorem zm_4_60 : Cond.instanceMethod yX9_comesOn ∈ zTb := zt4 60 (by decide +kernel) (by decide +kernel)
theorem zm_4_61 : Cond.code yX9_comesOn cX9_comesOn 3 none ∈ zTb := zt4 61 (by decide +kernel) (by decide +kernel)
theorem zm_4_62 : Cond.methodLink RX9 58 yX9_stores ∈ zTb := zt4 62 (by decide +kernel) (by decide +kernel)
theorem zm_4_64 : Cond.instanceMethod yX9_stores ∈ zTb := zt4 64 (by decide +kernel) (by decide +kernel)
theorem zm_4_65 : Cond.code yX9_stores cX9_stores 5 none ∈ zTb := zt4 65 (by decide +kernel) (by decide +kernel)
theorem zm_4_66 : Cond.methodLink RX9 51 yX9_allLoaves ∈ zTb := zt4 66 (by decide +kernel) (by decide +kernel)
theorem zm_4_68 : Cond.instanceMethod yX9_allLoaves ∈ zTb := zt4 68 (by decide +kernel) (by decide +kernel)
theorem zm_4_69 : Cond.code yX9_allLoaves cX9_allLoaves 1 (some .int) ∈ zTb := zt4 69 (by decide +kernel) (by decide +kernel)
theorem zm_4_70 : Cond.methodLink RX9 41 yX9_loavesFrom ∈ zTb := zt4 70 (by decide +kernel) (by decide +kernel)
theorem zm_4_72 : Cond.instanceMethod yX9_loavesFrom ∈ zTb := zt4 72 (by decide +kernel) (by decide +kernel)
theorem zm_4_73 : Cond.code yX9_loavesFrom cX9_loavesFrom 5 (some .int) ∈ zTb := zt4 73 (by decide +kernel) (by decide +kernel)
theorem zm_4_74 : Cond.methodLink RX9 55 yX9_lesser ∈ zTb := zt4 74 (by decide +kernel) (by decide +kernel)
theorem zm_4_75 : Cond.static yX9_lesser ∈ zTb := zt4 75 (by decide +kernel) (by decide +kernel)
theorem zm_4_76 : Cond.code yX9_lesser cX9_lesser 2 (some .int) ∈ zTb := zt4 76 (by decide +kernel) (by decide +kernel)
theorem zm_4_77 : Cond.methodLink RX9 62 yX9_comesHome ∈ zTb := zt4 77 (by decide +kernel) (by decide +kernel)
theorem zm_4_79 : Cond.instanceMethod yX9_comesHome ∈ zTb := zt4 79 (by decide +kernel) (by decide +kernel)
theorem zm_4_80 : Cond.code yX9_comesHome cX9_comesHome 3 none ∈ zTb := zt4 80 (by decide +kernel) (by decide +kernel)
theorem zm_4_81 : Cond.methodLink RX9 82 yX9_isThere ∈ zTb := zt4 81 (by decide +kernel) (by decide +kernel)
theorem zm_4_83 : Cond.instanceMethod yX9_isThere ∈ zTb := zt4 83 (by decide +kernel) (by decide +kernel)
theorem zm_4_84 : Cond.code yX9_isThere cX9_isThere 3 (some .boolean) ∈ zTb := zt4 84 (by decide +kernel) (by decide +kernel)
theorem zm_4_85 : Cond.methodLink RX9 86 yX9_eats ∈ zTb := zt4 85 (by decide +kernel) (by decide +kernel)
theorem zm_4_87 : Cond.instanceMethod yX9_eats ∈ zTb := zt4 87 (by decide +kernel) (by decide +kernel)
theorem zm_4_88 : Cond.code yX9_eats cX9_eats 8 none ∈ zTb := zt4 88 (by decide +kernel) (by decide +kernel)
theorem zm_4_89 : Cond.methodLink RX9 69 yX9_wants ∈ zTb := zt4 89 (by decide +kernel) (by decide +kernel)
theorem zm_4_90 : Cond.static yX9_wants ∈ zTb := zt4 90 (by decide +kernel) (by decide +kernel)
theorem zm_4_91 : Cond.code yX9_wants cX9_wants 1 (some .int) ∈ zTb := zt4 91 (by decide +kernel) (by decide +kernel)
theorem zm_4_92 : Cond.methodLink RX9 73 yX9_takes ∈ zTb := zt4 92 (by decide +kernel) (by decide +kernel)
theorem zm_4_94 : Cond.instanceMethod yX9_takes ∈ zTb := zt4 94 (by decide +kernel) (by decide +kernel)
theorem zm_4_95 : Cond.code yX9_takes cX9_takes 7 none ∈ zTb := zt4 95 (by decide +kernel) (by decide +kernel)
theorem zm_4_96 : Cond.methodLink RX9 76 yX9_stale ∈ zTb := zt4 96 (by decide +kernel) (by decide +kernel)
theorem zm_4_98 : Cond.instanceMethod yX9_stale ∈ zTb := zt4 98 (by decide +kernel) (by decide +kernel)
theorem zm_4_99 : Cond.code yX9_stale cX9_stale 1 (some .int) ∈ zTb := zt4 99 (by decide +kernel) (by decide +kernel)
theorem zm_4_100 : Cond.methodLink RL 47 yX9_set ∈ zTb := zt4 100 (by decide +kernel) (by decide +kernel)
theorem zm_4_101 : Cond.instanceMethod yX9_set ∈ zTb := zt4 101 (by decide +kernel) (by decide +kernel)
theorem zm_4_102 : Cond.selects RX9 yX9_set yX9_set ∈ zTb := zt4 102 (by decide +kernel) (by decide +kernel)
theorem zm_4_103 : Cond.code yX9_set cX9_set 4 (some .int) ∈ zTb := zt4 103 (by decide +kernel) (by decide +kernel)
theorem zm_4_104 : Cond.methodLink RX9 114 yX9_maySet ∈ zTb := zt4 104 (by decide +kernel) (by decide +kernel)
theorem zm_4_105 : Cond.static yX9_maySet ∈ zTb := zt4 105 (by decide +kernel) (by decide +kernel)
theorem zm_4_106 : Cond.code yX9_maySet cX9_maySet 2 (some .boolean) ∈ zTb := zt4 106 (by decide +kernel) (by decide +kernel)
theorem zm_4_107 : Cond.methodLink RL 51 yX9_muleOf ∈ zTb := zt4 107 (by decide +kernel) (by decide +kernel)
theorem zm_4_108 : Cond.instanceMethod yX9_muleOf ∈ zTb := zt4 108 (by decide +kernel) (by decide +kernel)
theorem zm_4_109 : Cond.selects RX9 yX9_muleOf yX9_muleOf ∈ zTb := zt4 109 (by decide +kernel) (by decide +kernel)
theorem zm_4_110 : Cond.code yX9_muleOf cX9_muleOf 3 (some .int) ∈ zTb := zt4 110 (by decide +kernel) (by decide +kernel)
theorem zm_4_111 : Cond.methodLink RL 55 yX9_groupOf ∈ zTb := zt4 111 (by decide +kernel) (by decide +kernel)
theorem zm_4_112 : Cond.instanceMethod yX9_groupOf ∈ zTb := zt4 112 (by decide +kernel) (by decide +kernel)
theorem zm_4_113 : Cond.selects RX9 yX9_groupOf yX9_groupOf ∈ zTb := zt4 113 (by decide +kernel) (by decide +kernel)
theorem zm_4_114 : Cond.code yX9_groupOf cX9_groupOf 4 (some .int) ∈ zTb := zt4 114 (by decide +kernel) (by decide +kernel)
theorem zm_4_115 : Cond.methodLink RL 59 yX9_number ∈ zTb := zt4 115 (by decide +kernel) (by decide +kernel)
theorem zm_4_116 : Cond.instanceMethod yX9_number ∈ zTb := zt4 116 (by decide +kernel) (by decide +kernel)
theorem zm_4_117 : Cond.selects RX9 yX9_number yX9_number ∈ zTb := zt4 117 (by decide +kernel) (by decide +kernel)
theorem zm_4_118 : Cond.code yX9_number cX9_number 2 (some .int) ∈ zTb := zt4 118 (by decide +kernel) (by decide +kernel)
theorem zm_4_119 : Cond.methodLink RL 63 yX9_loaves ∈ zTb := zt4 119 (by decide +kernel) (by decide +kernel)
theorem zm_4_120 : Cond.instanceMethod yX9_loaves ∈ zTb := zt4 120 (by decide +kernel) (by decide +kernel)
theorem zm_4_121 : Cond.selects RX9 yX9_loaves yX9_loaves ∈ zTb := zt4 121 (by decide +kernel) (by decide +kernel)
theorem zm_4_122 : Cond.code yX9_loaves cX9_loaves 2 (some .int) ∈ zTb := zt4 122 (by decide +kernel) (by decide +kernel)
theorem zm_4_123 : Cond.methodLink RL 67 yX9_why ∈ zTb := zt4 123 (by decide +kernel) (by decide +kernel)
theorem zm_4_124 : Cond.instanceMethod yX9_why ∈ zTb := zt4 124 (by decide +kernel) (by decide +kernel)
theorem zm_4_125 : Cond.selects RX9 yX9_why yX9_why ∈ zTb := zt4 125 (by decide +kernel) (by decide +kernel)
theorem zm_4_126 : Cond.code yX9_why cX9_why 3 (some .int) ∈ zTb := zt4 126 (by decide +kernel) (by decide +kernel)
theorem zm_4_127 : Cond.methodLink RL 71 yX9_wanted ∈ zTb := zt4 127 (by decide +kernel) (by decide +kernel)
theorem zm_4_128 : Cond.instanceMethod yX9_wanted ∈ zTb := zt4 128 (by decide +kernel) (by decide +kernel)
theorem zm_4_129 : Cond.selects RX9 yX9_wanted yX9_wanted ∈ zTb := zt4 129 (by decide +kernel) (by decide +kernel)
theorem zm_4_130 : Cond.code yX9_wanted cX9_wanted 4 (some .int) ∈ zTb := zt4 130 (by decide +kernel) (by decide +kernel)
theorem zm_4_131 : Cond.methodLink RL 76 yX9_hungry ∈ zTb := zt4 131 (by decide +kernel) (by decide +kernel)
theorem zm_4_132 : Cond.instanceMethod yX9_hungry ∈ zTb := zt4 132 (by decide +kernel) (by decide +kernel)
theorem zm_4_133 : Cond.selects RX9 yX9_hungry yX9_hungry ∈ zTb := zt4 133 (by decide +kernel) (by decide +kernel)
theorem zm_4_134 : Cond.code yX9_hungry cX9_hungry 3 (some .int) ∈ zTb := zt4 134 (by decide +kernel) (by decide +kernel)
theorem zm_4_135 : Cond.methodLink RX9 117 yX9_copies ∈ zTb := zt4 135 (by decide +kernel) (by decide +kernel)
theorem zm_4_136 : Cond.static yX9_copies ∈ zTb := zt4 136 (by decide +kernel) (by decide +kernel)
theorem zm_4_137 : Cond.code yX9_copies cX9_copies 3 none ∈ zTb := zt4 137 (by decide +kernel) (by decide +kernel)
theorem zm_4_138 : Cond.methodLink RL 80 yX9_next ∈ zTb := zt4 138 (by decide +kernel) (by decide +kernel)
theorem zm_4_139 : Cond.instanceMethod yX9_next ∈ zTb := zt4 139 (by decide +kernel) (by decide +kernel)
theorem zm_4_140 : Cond.selects RX9 yX9_next yX9_next ∈ zTb := zt4 140 (by decide +kernel) (by decide +kernel)
theorem zm_4_141 : Cond.code yX9_next cX9_next 4 (some .int) ∈ zTb := zt4 141 (by decide +kernel) (by decide +kernel)
theorem zm_4_142 : Cond.methodLink RX9 121 yX9_nextMule ∈ zTb := zt4 142 (by decide +kernel) (by decide +kernel)
theorem zm_4_144 : Cond.instanceMethod yX9_nextMule ∈ zTb := zt4 144 (by decide +kernel) (by decide +kernel)
theorem zm_4_145 : Cond.code yX9_nextMule cX9_nextMule 4 (some .int) ∈ zTb := zt4 145 (by decide +kernel) (by decide +kernel)
theorem zm_4_146 : Cond.methodLink RL 84 yX9_would ∈ zTb := zt4 146 (by decide +kernel) (by decide +kernel)
theorem zm_4_147 : Cond.instanceMethod yX9_would ∈ zTb := zt4 147 (by decide +kernel) (by decide +kernel)
theorem zm_4_148 : Cond.selects RX9 yX9_would yX9_would ∈ zTb := zt4 148 (by decide +kernel) (by decide +kernel)
theorem zm_4_149 : Cond.code yX9_would cX9_would 5 (some .int) ∈ zTb := zt4 149 (by decide +kernel) (by decide +kernel)
theorem zm_4_150 : Cond.methodLink RL 88 yX9_mean ∈ zTb := zt4 150 (by decide +kernel) (by decide +kernel)
theorem zm_4_151 : Cond.instanceMethod yX9_mean ∈ zTb := zt4 151 (by decide +kernel) (by decide +kernel)
theorem zm_4_152 : Cond.selects RX9 yX9_mean yX9_mean ∈ zTb := zt4 152 (by decide +kernel) (by decide +kernel)
theorem zm_4_153 : Cond.code yX9_mean cX9_mean 4 (some .int) ∈ zTb := zt4 153 (by decide +kernel) (by decide +kernel)
theorem zm_4_154 : Cond.methodLink RX9 124 yJxf58ca_floatToIntBits_5c35a ∈ zTb := zt4 154 (by decide +kernel) (by decide +kernel)
theorem zm_4_155 : Cond.static yJxf58ca_floatToIntBits_5c35a ∈ zTb := zt4 155 (by decide +kernel) (by decide +kernel)
theorem zm_4_156 : Cond.code yJxf58ca_floatToIntBits_5c35a cJxf58ca_floatToIntBits_5c35a 1 (some .int) ∈ zTb := zt4 156 (by decide +kernel) (by decide +kernel)
theorem zm_4_157 : Cond.methodLink RJxf58ca 59 yJxf58ca_isNaN_12338 ∈ zTb := zt4 157 (by decide +kernel) (by decide +kernel)
theorem zm_4_158 : Cond.static yJxf58ca_isNaN_12338 ∈ zTb := zt4 158 (by decide +kernel) (by decide +kernel)
theorem zm_4_159 : Cond.code yJxf58ca_isNaN_12338 cJxf58ca_isNaN_12338 1 (some .boolean) ∈ zTb := zt4 159 (by decide +kernel) (by decide +kernel)
theorem zm_4_160 : Cond.methodLink RJxf58ca 74 ⟨"java/lang/Float", "floatToRawIntBits", "(F)I"⟩ ∈ zTb := zt4 160 (by decide +kernel) (by decide +kernel)
theorem zm_4_161 : Cond.static ⟨"java/lang/Float", "floatToRawIntBits", "(F)I"⟩ ∈ zTb := zt4 161 (by decide +kernel) (by decide +kernel)
theorem zm_4_163 : Cond.constant RJxf58ca 77 (2143289344) ∈ zTb := zt4 163 (by decide +kernel) (by decide +kernel)
theorem zm_4_164 : Cond.methodLink RL 92 yX9_count ∈ zTb := zt4 164 (by decide +kernel) (by decide +kernel)
theorem zm_4_165 : Cond.instanceMethod yX9_count ∈ zTb := zt4 165 (by decide +kernel) (by decide +kernel)
theorem zm_4_166 : Cond.selects RX9 yX9_count yX9_count ∈ zTb := zt4 166 (by decide +kernel) (by decide +kernel)
theorem zm_4_167 : Cond.code yX9_count cX9_count 2 (some .int) ∈ zTb := zt4 167 (by decide +kernel) (by decide +kernel)
theorem zm_4_168 : Cond.methodLink RX9 130 yX9_onTheWay ∈ zTb := zt4 168 (by decide +kernel) (by decide +kernel)
theorem zm_4_170 : Cond.instanceMethod yX9_onTheWay ∈ zTb := zt4 170 (by decide +kernel) (by decide +kernel)
theorem zm_4_171 : Cond.code yX9_onTheWay cX9_onTheWay 3 (some .int) ∈ zTb := zt4 171 (by decide +kernel) (by decide +kernel)
theorem zm_4_172 : Cond.methodLink RL 96 yX9_undo ∈ zTb := zt4 172 (by decide +kernel) (by decide +kernel)
theorem zm_4_173 : Cond.instanceMethod yX9_undo ∈ zTb := zt4 173 (by decide +kernel) (by decide +kernel)
theorem zm_4_174 : Cond.selects RX9 yX9_undo yX9_undo ∈ zTb := zt4 174 (by decide +kernel) (by decide +kernel)
theorem zm_4_175 : Cond.code yX9_undo cX9_undo 2 (some .int) ∈ zTb := zt4 175 (by decide +kernel) (by decide +kernel)
theorem zm_4_176 : Cond.methodLink RL 100 yX9_type ∈ zTb := zt4 176 (by decide +kernel) (by decide +kernel)
theorem zm_4_177 : Cond.instanceMethod yX9_type ∈ zTb := zt4 177 (by decide +kernel) (by decide +kernel)
theorem zm_4_178 : Cond.selects RX9 yX9_type yX9_type ∈ zTb := zt4 178 (by decide +kernel) (by decide +kernel)
theorem zm_4_179 : Cond.code yX9_type cX9_type 2 (some .int) ∈ zTb := zt4 179 (by decide +kernel) (by decide +kernel)
theorem zm_4_180 : Cond.methodLink RL 104 yX9_clearText ∈ zTb := zt4 180 (by decide +kernel) (by decide +kernel)
theorem zm_4_181 : Cond.instanceMethod yX9_clearText ∈ zTb := zt4 181 (by decide +kernel) (by decide +kernel)
theorem zm_4_182 : Cond.selects RX9 yX9_clearText yX9_clearText ∈ zTb := zt4 182 (by decide +kernel) (by decide +kernel)
theorem zm_4_183 : Cond.code yX9_clearText cX9_clearText 2 (some .int) ∈ zTb := zt4 183 (by decide +kernel) (by decide +kernel)
theorem zm_4_184 : Cond.methodLink RL 108 yX9_fault ∈ zTb := zt4 184 (by decide +kernel) (by decide +kernel)
theorem zm_4_185 : Cond.instanceMethod yX9_fault ∈ zTb := zt4 185 (by decide +kernel) (by decide +kernel)
theorem zm_4_186 : Cond.selects RX9 yX9_fault yX9_fault ∈ zTb := zt4 186 (by decide +kernel) (by decide +kernel)
theorem zm_4_187 : Cond.code yX9_fault cX9_fault 3 (some .int) ∈ zTb := zt4 187 (by decide +kernel) (by decide +kernel)
theorem zm_4_188 : Cond.methodLink RX9 189 yX9_plays ∈ zTb := zt4 188 (by decide +kernel) (by decide +kernel)
theorem zm_4_190 : Cond.instanceMethod yX9_plays ∈ zTb := zt4 190 (by decide +kernel) (by decide +kernel)
theorem zm_4_191 : Cond.code yX9_plays cX9_plays 4 (some .boolean) ∈ zTb := zt4 191 (by decide +kernel) (by decide +kernel)
theorem zm_4_192 : Cond.methodLink RX9 176 yX9_reads ∈ zTb := zt4 192 (by decide +kernel) (by decide +kernel)
theorem zm_4_194 : Cond.instanceMethod yX9_reads ∈ zTb := zt4 194 (by decide +kernel) (by decide +kernel)
theorem zm_4_195 : Cond.code yX9_reads cX9_reads 4 (some .boolean) ∈ zTb := zt4 195 (by decide +kernel) (by decide +kernel)
theorem zm_4_196 : Cond.methodLink RX9 139 yX9_isAt ∈ zTb := zt4 196 (by decide +kernel) (by decide +kernel)
theorem zm_4_198 : Cond.instanceMethod yX9_isAt ∈ zTb := zt4 198 (by decide +kernel) (by decide +kernel)
theorem zm_4_199 : Cond.code yX9_isAt cX9_isAt 3 (some .boolean) ∈ zTb := zt4 199 (by decide +kernel) (by decide +kernel)
theorem zm_4_200 : Cond.methodLink RX9 145 yX9_numbersOf ∈ zTb := zt4 200 (by decide +kernel) (by decide +kernel)
theorem zm_4_201 : Cond.static yX9_numbersOf ∈ zTb := zt4 201 (by decide +kernel) (by decide +kernel)
theorem zm_4_202 : Cond.code yX9_numbersOf cX9_numbersOf 1 (some .int) ∈ zTb := zt4 202 (by decide +kernel) (by decide +kernel)
theorem zm_4_203 : Cond.methodLink RX9 148 yX9_numbered ∈ zTb := zt4 203 (by decide +kernel) (by decide +kernel)
theorem zm_4_205 : Cond.instanceMethod yX9_numbered ∈ zTb := zt4 205 (by decide +kernel) (by decide +kernel)
theorem zm_4_206 : Cond.code yX9_numbered cX9_numbered 3 (some .boolean) ∈ zTb := zt4 206 (by decide +kernel) (by decide +kernel)
theorem zm_4_207 : Cond.methodLink RX9 151 yX9_sign ∈ zTb := zt4 207 (by decide +kernel) (by decide +kernel)
theorem zm_4_209 : Cond.instanceMethod yX9_sign ∈ zTb := zt4 209 (by decide +kernel) (by decide +kernel)
theorem zm_4_210 : Cond.code yX9_sign cX9_sign 3 (some .boolean) ∈ zTb := zt4 210 (by decide +kernel) (by decide +kernel)
theorem zm_4_211 : Cond.methodLink RX9 180 yX9_calls ∈ zTb := zt4 211 (by decide +kernel) (by decide +kernel)
theorem zm_4_213 : Cond.instanceMethod yX9_calls ∈ zTb := zt4 213 (by decide +kernel) (by decide +kernel)
theorem zm_4_214 : Cond.code yX9_calls cX9_calls 1 (some .int) ∈ zTb := zt4 214 (by decide +kernel) (by decide +kernel)
theorem zm_4_215 : Cond.methodLink RX9 154 yX9_send ∈ zTb := zt4 215 (by decide +kernel) (by decide +kernel)
theorem zm_4_216 : Cond.methodLink RX9 157 yX9_group ∈ zTb := zt4 216 (by decide +kernel) (by decide +kernel)
theorem zm_4_217 : Cond.methodLink RX9 161 yX9_off ∈ zTb := zt4 217 (by decide +kernel) (by decide +kernel)
theorem zm_4_218 : Cond.methodLink RX9 164 yX9_pay ∈ zTb := zt4 218 (by decide +kernel) (by decide +kernel)
theorem zm_4_219 : Cond.methodLink RX9 167 yX9_end ∈ zTb := zt4 219 (by decide +kernel) (by decide +kernel)
theorem zm_4_220 : Cond.methodLink RL 112 yX9_play ∈ zTb := zt4 220 (by decide +kernel) (by decide +kernel)
theorem zm_4_221 : Cond.instanceMethod yX9_play ∈ zTb := zt4 221 (by decide +kernel) (by decide +kernel)
theorem zm_4_222 : Cond.selects RX9 yX9_play yX9_play ∈ zTb := zt4 222 (by decide +kernel) (by decide +kernel)
theorem zm_4_223 : Cond.code yX9_play cX9_play 2 (some .int) ∈ zTb := zt4 223 (by decide +kernel) (by decide +kernel)
theorem zm_0_0 : Cond.selects RX8 yX8_takeOver yX8_takeOver ∈ zTb := zt0 0 (by decide +kernel) (by decide +kernel)
theorem zm_0_1 : Cond.selects RX1 yX1_dropOldest yX1_dropOldest ∈ zTb := zt0 1 (by decide +kernel) (by decide +kernel)
theorem zm_0_2 : Cond.selects RX2 yX2_removeGroup yX2_removeGroup ∈ zTb := zt0 2 (by decide +kernel) (by decide +kernel)
theorem zm_0_3 : Cond.selects RX2 yX2_unload yX2_unload ∈ zTb := zt0 3 (by decide +kernel) (by decide +kernel)
theorem zm_0_4 : Cond.selects RX2 yX2_feed yX2_feed ∈ zTb := zt0 4 (by decide +kernel) (by decide +kernel)
theorem zm_0_5 : Cond.selects RX5 yX5_readOrder yX5_readOrder ∈ zTb := zt0 5 (by decide +kernel) (by decide +kernel)
theorem zm_0_6 : Cond.selects RX5 yX5_signAt yX5_signAt ∈ zTb := zt0 6 (by decide +kernel) (by decide +kernel)
theorem zm_0_7 : Cond.selects RX5 yX5_readNumber yX5_readNumber ∈ zTb := zt0 7 (by decide +kernel) (by decide +kernel)
theorem zm_0_8 : Cond.selects RX5 yX5_perform yX5_perform ∈ zTb := zt0 8 (by decide +kernel) (by decide +kernel)
theorem zm_0_9 : Cond.selects RX5 yX5_numberAt yX5_numberAt ∈ zTb := zt0 9 (by decide +kernel) (by decide +kernel)
theorem zm_0_10 : Cond.selects RX9 yX9_changes yX9_changes ∈ zTb := zt0 10 (by decide +kernel) (by decide +kernel)
theorem zm_0_11 : Cond.selects RX9 yX9_sets yX9_sets ∈ zTb := zt0 11 (by decide +kernel) (by decide +kernel)
theorem zm_0_12 : Cond.selects RX9 yX9_isMule yX9_isMule ∈ zTb := zt0 12 (by decide +kernel) (by decide +kernel)
theorem zm_0_13 : Cond.selects RX9 yX9_whyNot yX9_whyNot ∈ zTb := zt0 13 (by decide +kernel) (by decide +kernel)
theorem zm_0_14 : Cond.selects RX9 yX9_of yX9_of ∈ zTb := zt0 14 (by decide +kernel) (by decide +kernel)
theorem zm_0_15 : Cond.selects RX9 yX9_placeOf yX9_placeOf ∈ zTb := zt0 15 (by decide +kernel) (by decide +kernel)
theorem zm_0_16 : Cond.selects RX9 yX9_ofGroup yX9_ofGroup ∈ zTb := zt0 16 (by decide +kernel) (by decide +kernel)
theorem zm_0_17 : Cond.selects RX9 yX9_goes yX9_goes ∈ zTb := zt0 17 (by decide +kernel) (by decide +kernel)
theorem zm_0_18 : Cond.selects RX9 yX9_endsFor yX9_endsFor ∈ zTb := zt0 18 (by decide +kernel) (by decide +kernel)
theorem zm_0_19 : Cond.selects RX9 yX9_ends yX9_ends ∈ zTb := zt0 19 (by decide +kernel) (by decide +kernel)
theorem zm_0_20 : Cond.selects RX9 yX9_comesOn yX9_comesOn ∈ zTb := zt0 20 (by decide +kernel) (by decide +kernel)
theorem zm_0_21 : Cond.selects RX9 yX9_stores yX9_stores ∈ zTb := zt0 21 (by decide +kernel) (by decide +kernel)
theorem zm_0_22 : Cond.selects RX9 yX9_allLoaves yX9_allLoaves ∈ zTb := zt0 22 (by decide +kernel) (by decide +kernel)
theorem zm_0_23 : Cond.selects RX9 yX9_loavesFrom yX9_loavesFrom ∈ zTb := zt0 23 (by decide +kernel) (by decide +kernel)
theorem zm_0_24 : Cond.selects RX9 yX9_comesHome yX9_comesHome ∈ zTb := zt0 24 (by decide +kernel) (by decide +kernel)
theorem zm_0_25 : Cond.selects RX9 yX9_isThere yX9_isThere ∈ zTb := zt0 25 (by decide +kernel) (by decide +kernel)
theorem zm_0_26 : Cond.selects RX9 yX9_eats yX9_eats ∈ zTb := zt0 26 (by decide +kernel) (by decide +kernel)
theorem zm_0_27 : Cond.selects RX9 yX9_takes yX9_takes ∈ zTb := zt0 27 (by decide +kernel) (by decide +kernel)
theorem zm_0_28 : Cond.selects RX9 yX9_stale yX9_stale ∈ zTb := zt0 28 (by decide +kernel) (by decide +kernel)
theorem zm_0_29 : Cond.selects RX9 yX9_nextMule yX9_nextMule ∈ zTb := zt0 29 (by decide +kernel) (by decide +kernel)
theorem zm_0_30 : Cond.selects RX9 yX9_onTheWay yX9_onTheWay ∈ zTb := zt0 30 (by decide +kernel) (by decide +kernel)
theorem zm_0_31 : Cond.selects RX9 yX9_plays yX9_plays ∈ zTb := zt0 31 (by decide +kernel) (by decide +kernel)
theorem zm_0_32 : Cond.selects RX9 yX9_reads yX9_reads ∈ zTb := zt0 32 (by decide +kernel) (by decide +kernel)
theorem zm_0_33 : Cond.selects RX9 yX9_isAt yX9_isAt ∈ zTb := zt0 33 (by decide +kernel) (by decide +kernel)
theorem zm_0_34 : Cond.selects RX9 yX9_numbered yX9_numbered ∈ zTb := zt0 34 (by decide +kernel) (by decide +kernel)
theorem zm_0_35 : Cond.selects RX9 yX9_sign yX9_sign ∈ zTb := zt0 35 (by decide +kernel) (by decide +kernel)
theorem zm_0_36 : Cond.selects RX9 yX9_calls yX9_calls ∈ zTb := zt0 36 (by decide +kernel) (by decide +kernel)
theorem zin_X0 : ∀ w ∈ wsX00, w ∈ zTb := by decide +kernel
theorem zin_X1 : ∀ w ∈ wsX10, w ∈ zTb := by decide +kernel
theorem zin_X2 : ∀ w ∈ wsX20, w ∈ zTb := by decide +kernel
theorem zin_X3 : ∀ w ∈ wsX30, w ∈ zTb := by decide +kernel
theorem zin_X4 : ∀ w ∈ wsX40, w ∈ zTb := by decide +kernel
theorem zin_X5 : ∀ w ∈ wsX50, w ∈ zTb := by decide +kernel
theorem zin_X6 : ∀ w ∈ wsX60, w ∈ zTb := by decide +kernel
theorem zin_X7 : ∀ w ∈ wsX70, w ∈ zTb := by decide +kernel
theorem zin_X8 : ∀ w ∈ wsX80, w ∈ zTb := by decide +kernel
theorem zin_X9 : ∀ w ∈ wsX90, w ∈ zTb := by decide +kernel
end
section
/-! THE TAG WORLD: the cells of both systems are numbered (tags); the world is a map from tags to contents, the addresses are fixed; every contract speaks of the whole world -/
abbrev zW : Type := Nat × (Nat → Nat)
abbrev zκ : Type := zW × Nat × Nat
abbrev zF : Type := Nat → va_E
abbrev zJ : Type := zκ → zF → List (Nat × Value) → Nat → List Value → Prop
def zl (w : zW) (f : zF) : va_W := (List.range w.1).map (fun i => (w.2 i, f i))
theorem zl_get {w : zW} {f : zF} {i : Nat} (h : i < w.1) : (zl w f)[i]? = some (w.2 i, f i) := by
  simp [zl, h]
theorem zl_of {w : zW} {f : zF} {k : Nat} {q : Nat × va_E} (h : (zl w f)[k]? = some q) : k < w.1 ∧ q = (w.2 k, f k) := by
  have hl : k < w.1 := by
    have := (List.getElem?_eq_some_iff.mp h).1
    simpa [zl] using this
  rw [zl_get hl] at h
  exact ⟨hl, (Option.some.inj h).symm⟩
theorem zl_none {w : zW} {f : zF} {i : Nat} (h : ¬ i < w.1) : (zl w f)[i]? = none := by
  rw [List.getElem?_eq_none_iff]
  simp only [zl, List.length_map, List.length_range]
  omega
theorem zl_set {w : zW} {f : zF} {i : Nat} {e : va_E} (h : i < w.1) : (zl w f).set i (w.2 i, e) = zl w (va_up f i e) := by
  apply List.ext_getElem?
  intro j
  by_cases hj : j = i
  · subst hj
    rw [List.getElem?_set_self (by simpa [zl] using h), zl_get h, va_up_self]
  · rw [List.getElem?_set_ne (Ne.symm hj)]
    by_cases hl : j < w.1
    · rw [zl_get hl, zl_get hl, va_up_ne _ _ hj]
    · rw [zl_none hl, zl_none hl]
def zpush (w : zW) (q : Nat) : zW := (w.1 + 1, va_up w.2 w.1 q)
theorem zl_push {w : zW} {f : zF} {q : Nat} {e : va_E} : zl w f ++ [(q, e)] = zl (zpush w q) (va_up f w.1 e) := by
  apply List.ext_getElem?
  intro j
  by_cases hj : j < w.1
  · rw [List.getElem?_append_left (by simpa [zl] using hj), zl_get hj, zl_get (show j < (zpush w q).1 by show j < w.1 + 1; omega)]
    show some (w.2 j, f j) = some (va_up w.2 w.1 q j, va_up f w.1 e j)
    rw [va_up_ne _ _ (by omega), va_up_ne _ _ (by omega)]
  · rw [List.getElem?_append_right (by simpa [zl] using hj)]
    have hlen : (zl w f).length = w.1 := by simp [zl]
    rw [hlen]
    by_cases h2 : j = w.1
    · subst h2
      rw [Nat.sub_self, zl_get (show w.1 < (zpush w q).1 by show w.1 < w.1 + 1; omega)]
      show some (q, e) = some (va_up w.2 w.1 q w.1, va_up f w.1 e w.1)
      rw [va_up_self, va_up_self]
    · rw [zl_none (show ¬ j < (zpush w q).1 by show ¬ j < w.1 + 1; omega), List.getElem?_eq_none_iff]
      simp only [List.length_cons, List.length_nil]
      omega
def zIn (w : zW) : Prop := ∀ i j : Nat, i < w.1 → j < w.1 → w.2 i = w.2 j → i = j
def zAd (w : zW) (sz : Nat) : Nat → Prop := fun q => (∃ i, i < w.1 ∧ w.2 i = q) ∨ sz ≤ q
def zAll (w : zW) (A : Nat → Prop) : Prop := ∀ i, i < w.1 → A (w.2 i)
theorem zD_of {w : zW} {f : zF} {A : Nat → Prop} (h : zIn w) (hA : zAll w A) : va_D A (zl w f) := by
  refine ⟨fun i j p q hi hj e => ?_, fun k q hk => ?_⟩
  · obtain ⟨h1, rfl⟩ := zl_of hi
    obtain ⟨h2, rfl⟩ := zl_of hj
    exact h i j h1 h2 e
  · obtain ⟨h1, rfl⟩ := zl_of hk
    exact hA k h1
theorem zIn_push {D : va_G} {w : zW} {f : zF} {H : Heap} {q : Nat} (h : zIn w) (hP : va_P D vwCl (zl w f) H) (hq : q = H.size) : zIn (zpush w q) := by
  have lt : ∀ i, i < w.1 → w.2 i < q := fun i hi => by
    have := (hP i _ (zl_get hi)).lt
    omega
  intro i j hi hj e
  have hi : i < w.1 + 1 := hi
  have hj : j < w.1 + 1 := hj
  have e : va_up w.2 w.1 q i = va_up w.2 w.1 q j := e
  by_cases h1 : i = w.1 <;> by_cases h2 : j = w.1
  · omega
  · rw [h1, va_up_self, va_up_ne _ _ h2] at e
    have := lt j (by omega)
    omega
  · rw [h2, va_up_self, va_up_ne _ _ h1] at e
    have := lt i (by omega)
    omega
  · rw [va_up_ne _ _ h1, va_up_ne _ _ h2] at e
    exact h i j (by omega) (by omega) e
theorem zAll_push {w : zW} {A : Nat → Prop} {q : Nat} (h : zAll w A) (hq : A q) : zAll (zpush w q) A := by
  intro i hi
  have hi : i < w.1 + 1 := hi
  show A (va_up w.2 w.1 q i)
  by_cases h1 : i = w.1
  · rw [h1, va_up_self]; exact hq
  · rw [va_up_ne _ _ h1]; exact h i (by omega)
/-! the tables: classes of arrays, nest mates' links, two static rows -/
def zNests : List Cond := [.fieldLinkNest "HutLoaves$Hut" 128 "HutLoaves$Ledger" "money" "I" "HutLoaves",
  .fieldLinkNest "HutLoaves" 151 "HutLoaves$Ledger" "money" "I" "HutLoaves",
  .fieldLinkNest "HutLoaves$Hut" 105 "HutLoaves$Ledger" "debt" "I" "HutLoaves",
  .fieldLinkNest "HutLoaves$Hut" 122 "HutLoaves$Ledger" "baked" "I" "HutLoaves",
  .fieldLinkNest "HutLoaves$Hut" 145 "HutLoaves$Ledger" "eaten" "I" "HutLoaves",
  .fieldLinkNest "HutLoaves" 148 "HutLoaves$Ledger" "eaten" "I" "HutLoaves",
  .fieldLinkNest "HutLoaves$Hut" 171 "HutLoaves$Ledger" "thrownAway" "I" "HutLoaves",
  .fieldLinkNest "HutLoaves$Hut" 197 "HutLoaves$Ledger" "lost" "I" "HutLoaves",
  .fieldLinkNest "HutLoaves$Hut" 154 "HutLoaves$Ledger" "snowDays" "I" "HutLoaves",
  .fieldLinkNest "HutLoaves" 128 "HutLoaves$Ledger" "hungryDays" "I" "HutLoaves",
  .fieldLinkNest "HutLoaves$Hut" 213 "HutLoaves$Ledger" "hungryDays" "I" "HutLoaves",
  .fieldLinkNest "HutLoaves$Hut" 220 "HutLoaves$Ledger" "paidByGroups" "I" "HutLoaves",
  .fieldLinkNest "HutLoaves$Hut" 131 "HutLoaves$Ledger" "paidToBaker" "I" "HutLoaves",
  .fieldLinkNest "HutLoaves$Hut" 108 "HutLoaves$Settings" "price" "I" "HutLoaves",
  .fieldLinkNest "HutLoaves$Hut" 111 "HutLoaves$Settings" "credit" "I" "HutLoaves",
  .fieldLinkNest "HutLoaves$Hut" 203 "HutLoaves$Settings" "freshDays" "I" "HutLoaves",
  .fieldLinkNest "HutLoaves$Hut" 151 "HutLoaves$Settings" "snow" "I" "HutLoaves",
  .fieldLinkNest "HutLoaves$Hut" 102 "HutLoaves$Mule" "load" "I" "HutLoaves",
  .fieldLinkNest "HutLoaves" 137 "HutLoaves$Mule" "load" "I" "HutLoaves",
  .fieldLinkNest "HutLoaves$Hut" 99 "HutLoaves$Mule" "place" "I" "HutLoaves",
  .fieldLinkNest "HutLoaves$Hut" 227 "HutLoaves$Mule" "brings" "I" "HutLoaves",
  .fieldLinkNest "HutLoaves$Hut" 183 "HutLoaves$Mule" "bakedOn" "I" "HutLoaves",
  .fieldLinkNest "HutLoaves$Hut" 125 "HutLoaves$Mule" "sent" "I" "HutLoaves",
  .fieldLinkNest "HutLoaves$Hut" 86 "HutLoaves$Group" "number" "I" "HutLoaves",
  .fieldLinkNest "HutLoaves" 99 "HutLoaves$Group" "number" "I" "HutLoaves",
  .fieldLinkNest "HutLoaves$Hut" 214 "HutLoaves$Group" "persons" "I" "HutLoaves",
  .fieldLinkNest "HutLoaves$Hut" 217 "HutLoaves$Group" "paid" "I" "HutLoaves",
  .fieldLinkNest "HutLoaves$Hut" 210 "HutLoaves$Group" "hungryDays" "I" "HutLoaves",
  .fieldLinkNest "HutLoaves" 106 "HutLoaves$Hut" "shelf" "LHutLoaves$Shelf;" "HutLoaves",
  .fieldLinkNest "HutLoaves" 124 "HutLoaves$Hut" "ledger" "LHutLoaves$Ledger;" "HutLoaves",
  .fieldLinkNest "HutLoaves" 64 "HutLoaves$Hut" "settings" "LHutLoaves$Settings;" "HutLoaves",
  .fieldLinkNest "HutLoaves" 90 "HutLoaves$Hut" "day" "I" "HutLoaves",
  .fieldLinkNest "HutLoaves" 164 "HutLoaves$History" "size" "I" "HutLoaves",
  .fieldLinkNest "HutLoaves" 167 "HutLoaves$Orders" "length" "I" "HutLoaves",
  .fieldLinkNest "HutLoaves" 190 "HutLoaves$Orders" "start" "I" "HutLoaves",
  .fieldLinkNest "HutLoaves" 187 "HutLoaves$Orders" "reason" "I" "HutLoaves",
  .fieldLinkNest "HutLoaves" 193 "HutLoaves$Orders" "cause" "I" "HutLoaves",
  .fieldLinkNest "HutLoaves$Settings" 25 "HutLoaves" "LOWEST_VALUES" "[I" "HutLoaves",
  .fieldLinkNest "HutLoaves$Settings" 29 "HutLoaves" "HIGHEST_VALUES" "[I" "HutLoaves",
  .methodLinkNest "HutLoaves$Hut" 25 ⟨"HutLoaves$Shelf", "<init>", "()V"⟩ "HutLoaves",
  .methodLinkNest "HutLoaves$Hut" 32 ⟨"HutLoaves$Ledger", "<init>", "()V"⟩ "HutLoaves",
  .methodLinkNest "HutLoaves$Hut" 39 ⟨"HutLoaves$Settings", "<init>", "()V"⟩ "HutLoaves",
  .methodLinkNest "HutLoaves$Hut" 48 ⟨"HutLoaves$Mule", "<init>", "()V"⟩ "HutLoaves",
  .methodLinkNest "HutLoaves$Hut" 49 ⟨"HutLoaves$Group", "<init>", "()V"⟩ "HutLoaves",
  .methodLinkNest "HutLoaves" 28 ⟨"HutLoaves$Orders", "<init>", "()V"⟩ "HutLoaves",
  .methodLinkNest "HutLoaves$Hut" 89 ⟨"HutLoaves", "isWithin", "(III)Z"⟩ "HutLoaves",
  .methodLinkNest "HutLoaves$Settings" 32 ⟨"HutLoaves", "isWithin", "(III)Z"⟩ "HutLoaves",
  .methodLinkNest "HutLoaves$Orders" 77 ⟨"HutLoaves", "isWithin", "(III)Z"⟩ "HutLoaves"]

def zIsNest (c : Cond) : Bool := match c with
  | .fieldLinkNest _ _ _ _ _ _ => true
  | .methodLinkNest _ _ _ _ => true
  | _ => false
theorem zNests_ok : ∀ x ∈ zNests, zIsNest x = true := by decide +kernel
theorem zNw_warm {x : Cond} {s U : State} (hx : zIsNest x = true) (hW : s.WarmedH U.vm) (h : va_Nw x s) : va_Nw x U := by
  cases x <;> first | exact va_Nw.warmF hW h | exact va_Nw.warmM hW h | exact absurd hx (by simp [zIsNest])
theorem zNw_same {x : Cond} {u U : State} (hx : zIsNest x = true) (hv : u.vm = U.vm) (h : va_Nw x u) : va_Nw x U := by
  cases x <;> first | exact va_Nw.same rfl hv h | exact absurd hx (by simp [zIsNest])
def zLow : Nat → Value := fun k => match k with
  | 0 => .int 1
  | 1 => .int 10
  | _ => .int 0
def zHigh : Nat → Value := fun k => match k with
  | 0 => .int 9
  | 1 => .int 500
  | 2 => .int 15
  | _ => .int 90
def zSt (A : Nat → Prop) (U : State) (H : Heap) : Prop := ∃ tl th : Nat, va_Z "HutLoaves" "LOWEST_VALUES" "[I" (.ref tl) A U H ∧ va_T .int tl 4 zLow A U H ∧ va_Z "HutLoaves" "HIGHEST_VALUES" "[I" (.ref th) A U H ∧ va_T .int th 4 zHigh A U H
theorem zSt.go {A B : Nat → Prop} {u U : State} {H H1 : Heap} (h : zSt A u H) (hvm : u.vm.Alike U.vm) (hq : ∀ a : Nat, a < H.size → ¬ A a → H1[a]? = H[a]?) (hAB : ∀ q, B q → A q) : zSt B U H1 := by
  obtain ⟨tl, th, h1, h2, h3, h4⟩ := h
  exact ⟨tl, th, ((h1.moved hvm).kept hq).narrow hAB, ((h2.moved hvm).kept hq).narrow hAB, ((h3.moved hvm).kept hq).narrow hAB, ((h4.moved hvm).kept hq).narrow hAB⟩
def zWs (y : MethodName) (cc : ByteArray) (nL : Nat) (ret : Option FieldType) : List Cond := Cond.code y cc nL ret :: zTb
/-- the classes of arrays: ints, chars, mules, groups, huts -/
abbrev zT (cy : Nat → ClassId) : List (ClassId × FieldType) := [(cy 0, .int), (cy 1, .char), (cy 2, .object RX4), (cy 3, .object RX0), (cy 4, .object RX2)]
/-- what the machine knows at a state, with A the cells that may change -/
def zK (D : va_G) (cy : Nat → ClassId) (A : Nat → Prop) (U : State) : Prop := va_K D vwCl (zT cy) U ∧ (∀ x ∈ zNests, va_Nw x U) ∧ zSt A U U.heap ∧ va_AO RX4 U ∧ va_AO RX0 U ∧ va_AO RX2 U
/-! THE JUDGEMENT -/
def zG (p : Program) (l : Launch) (e : Env) (R : Room) (s : State) (m : MethodId) (args : Array Value) (below : List Frame) (meth : Method) (c : Code) (Q : State → Prop) (D : va_G) (nL : Nat) (A : Nat → Prop) : zJ :=
  fun κ f ls pc st => ∀ (H : Heap) (locs : List Loc) (arr : Array Slot), va_P D vwCl (zl κ.1 f) H → zIn κ.1 → zAll κ.1 A → va_S A s.heap H locs → lv_has arr nL ls → W p l e R s m args below meth c H locs κ.2.1 κ.2.2 Q (F0 m pc arr st)
/-- a walk's surroundings: what its rows need -/
def zX (l : Launch) (D : va_G) (cy : Nat → ClassId) (own : String) (cc : ByteArray) (nL : Nat) (R : Room) (nm : String) (G : zJ) : Prop :=
  ∃ (p : Program) (e : Env) (s : State) (m : MethodId) (args : Array Value) (below : List Frame) (meth : Method) (c : Code) (Q : State → Prop) (A : Nat → Prop),
    G = zG p l e R s m args below meth c Q D nL A ∧ p.tables.exec = Jvm.exec ∧ c.code = cc ∧ c.maxLocals = nL ∧ meth.name = nm ∧ s.vm.findClass own = some m.cls ∧ (∀ w ∈ zTb, w.before args s = true) ∧ (∀ q, s.heap.size ≤ q → A q) ∧ zK D cy A s
/-- a method's end -/
def zE (cc : ByteArray) (ret : Option FieldType) (w0 : zW) (mc ms : Nat) (post : Option Value → zW → zF → Prop) (G : zJ) : Prop :=
  (∀ (κ : zκ) (f : zF) (ls : List (Nat × Value)) (pc : Nat) (v : Int32), (ret = some .int ∨ (ret = some .boolean ∧ (v = 0 ∨ v = 1))) → decode cc pc = .ok (.ireturn, 1) → κ.2.1 ≤ mc → κ.2.2 ≤ ms → (w0.1 ≤ κ.1.1 ∧ ∀ i, i < w0.1 → κ.1.2 i = w0.2 i) → post (some (.int v)) κ.1 f → G κ f ls pc [.int v]) ∧
  (∀ (κ : zκ) (f : zF) (ls : List (Nat × Value)) (pc : Nat), ret = none → decode cc pc = .ok (.return_, 1) → κ.2.1 ≤ mc → κ.2.2 ≤ ms → (w0.1 ≤ κ.1.1 ∧ ∀ i, i < w0.1 → κ.1.2 i = w0.2 i) → post none κ.1 f → G κ f ls pc []) ∧
  (∀ (κ : zκ) (f : zF) (ls : List (Nat × Value)) (pc : Nat) (v : Value), (∃ n, ret = some (.object n)) → (v = .null ∨ ∃ a, v = .ref a) → decode cc pc = .ok (.areturn, 1) → κ.2.1 ≤ mc → κ.2.2 ≤ ms → (w0.1 ≤ κ.1.1 ∧ ∀ i, i < w0.1 → κ.1.2 i = w0.2 i) → post (some v) κ.1 f → G κ f ls pc [v])
/-- THE CONTRACT of a method over the whole world -/
def zQ (D : va_G) (w0 : zW) (sz : Nat) (post : Option Value → zW → zF → Prop) : Array Value → State → Outcome → State → Prop := fun _ st oc t =>
  (∃ (r : Option Value) (w' : zW) (f' : zF), oc = .returned r ∧ post r w' f' ∧ va_P D vwCl (zl w' f') t.heap ∧ zIn w' ∧ zAll w' (zAd w0 sz) ∧ w0.1 ≤ w'.1 ∧ ∀ i, i < w0.1 → w'.2 i = w0.2 i) ∧ va_F (zAd w0 sz) st t
def zPre (D : va_G) (cy : Nat → ClassId) (w : zW) (f : zF) (sz : Nat) (U : State) : Prop := U.heap.size = sz ∧ va_P D vwCl (zl w f) U.heap ∧ zIn w ∧ zK D cy (zAd w sz) U
def zM (l : Launch) (D : va_G) (cy : Nat → ClassId) (y : MethodName) (cc : ByteArray) (nL : Nat) (ret : Option FieldType) (R : Room) (av : List Value) (w : zW) (f : zF) (post : Option Value → zW → zF → Prop) : Prop :=
  ∀ sz : Nat, Met l y (zWs y cc nL ret) R (va_Pc av (zPre D cy w f sz)) (zQ D w sz post) R.cells R.slots (zAd w sz)
theorem zM.post {l : Launch} {D : va_G} {cy : Nat → ClassId} {y : MethodName} {cc : ByteArray} {nL : Nat} {ret : Option FieldType} {R : Room} {av : List Value} {w : zW} {f : zF} {post post' : Option Value → zW → zF → Prop} (h : zM l D cy y cc nL ret R av w f post) (hp : ∀ r w' f', post r w' f' → post' r w' f') : zM l D cy y cc nL ret R av w f post' := by
  intro sz p e ha hc hk s m args below hf happ hP hK
  obtain ⟨n, o, h1, h2, h3, ⟨⟨r, w', f', g1, g2, g3⟩, h4⟩, L, h5, h6⟩ := h sz p e ha hc hk s m args below hf happ hP hK
  exact ⟨n, o, h1, h2, h3, ⟨⟨r, w', f', g1, hp r w' f' g2, g3⟩, h4⟩, L, h5, h6⟩
section ZM
variable {l : Launch} {D : va_G} {cy : Nat → ClassId} {own : String} {cc : ByteArray} {nL : Nat} {R : Room} {nm : String} {G : zJ} {κ : zκ} {f : zF} {ls ls' : List (Nat × Value)} {pc : Nat} {st : List Value}
set_option maxHeartbeats 2000000 in
theorem zM.intro {y : MethodName} {av : List Value} {w : zW} {ret : Option FieldType} {post : Option Value → zW → zF → Prop} (hy : plainName y.cls = true) (hn : (lg_sl av).length ≤ nL)
    (body : ∀ G : zJ, zX l D cy y.cls cc nL R y.name G → zE cc ret w R.cells R.slots post G → G (w, 0, 0) f (lv_args 0 av) 0 []) : zM l D cy y cc nL ret R av w f post := by
  intro sz
  refine Met.ofW (cc := cc) (maxL := nL) (ret := ret) hy rfl ?_
  intro p e s m args below meth c s₁ B hml hv
  obtain ⟨rfl, hsz, hP, hI, hKK⟩ := hv
  subst hsz
  have hr := B.returns
  have hlocks := B.notSynchronized
  have hnm : meth.name = y.name := (name_of_methodNamed B.named B.method).1
  have hA : ∀ q, s.heap.size ≤ q → zAd w s.heap.size q := fun q h => Or.inr h
  have hall : zAll w (zAd w s.heap.size) := fun i hi => Or.inl ⟨i, hi, rfl⟩
  have X : zX l D cy y.cls cc nL R y.name (zG p l e R s m av.toArray below meth c (MQ below (zQ D w s.heap.size post) av.toArray s R.cells R.slots (zAd w s.heap.size)) D nL (zAd w s.heap.size)) :=
    ⟨p, e, s, m, av.toArray, below, meth, c, _, _, rfl, B.exec, B.bytes, hml, hnm, findClass_of_methodNamed B.named, fun w h => atoms_spec (ws := zWs y cc nL ret) B.pre w (List.mem_cons_of_mem _ h), hA, hKK⟩
  have fin : ∀ (κ : zκ) (f : zF) (H : Heap) (locs : List Loc) (r : Option Value), va_P D vwCl (zl κ.1 f) H → zIn κ.1 → zAll κ.1 (zAd w s.heap.size) → va_S (zAd w s.heap.size) s.heap H locs → (w.1 ≤ κ.1.1 ∧ ∀ i, i < w.1 → κ.1.2 i = w.2 i) → post r κ.1 f → ∀ t : State, t.heap = H → s.WarmedH t.vm → zQ D w s.heap.size post av.toArray s (.returned r) t := by
    intro κ f H locs r hP hI hAl hS hg hp t ht hW
    exact ⟨⟨r, κ.1, f, rfl, hp, by rw [ht]; exact hP, hI, hAl, hg.1, hg.2⟩, hS.F ht⟩
  have E : zE cc ret w R.cells R.slots post (zG p l e R s m av.toArray below meth c (MQ below (zQ D w s.heap.size post) av.toArray s R.cells R.slots (zAd w s.heap.size)) D nL (zAd w s.heap.size)) := by
    refine ⟨?_, ?_, ?_⟩
    · intro κ f ls pc v hret hd hc1 hc2 hg hp H locs arr hP hI hAl hS hl
      refine W.widen hc1 hc2 ?_
      rcases hret with h | ⟨h, h0⟩
      · exact W.zret (ty := .int) B.exec B.bytes (hr.trans h) rfl (fin κ f H locs _ hP hI hAl hS hg hp) hS.2.2 hd hlocks
      · refine W.zret (ty := .boolean) B.exec B.bytes (hr.trans h) ?_ (fin κ f H locs _ hP hI hAl hS hg hp) hS.2.2 hd hlocks
        rcases h0 with rfl | rfl <;> rfl
    · intro κ f ls pc hret hd hc1 hc2 hg hp H locs arr hP hI hAl hS hl
      refine W.widen hc1 hc2 ?_
      exact W.vret B.exec B.bytes (hr.trans hret) (fin κ f H locs _ hP hI hAl hS hg hp) hS.2.2 hd hlocks
    · intro κ f ls pc v hret hv hd hc1 hc2 hg hp H locs arr hP hI hAl hS hl
      refine W.widen hc1 hc2 ?_
      obtain ⟨n, hn⟩ := hret
      exact W.aret B.exec B.bytes (hr.trans hn) (Or.inl ⟨n, rfl⟩) hv (fin κ f H locs _ hP hI hAl hS hg hp) hS.2.2 hd hlocks
  have key := body _ X E s.heap [] _ hP hI hall va_S.rf (lv_entry av (n := nL) hn)
  rw [lg_entry_eq]
  exact key
end ZM
def zFd (own : String) (index ci k : Nat) : Prop := ∃ (C : String) (T : u_T) (N : Nat) (ref : String), vwCl[ci]? = some (C, T, N) ∧ (∀ w ∈ u_ws C T N, w ∈ zTb) ∧ k < N ∧ Cond.fieldLink own index ref (T k).2.1 (T k).2.2.1 ∈ zTb ∧ ref = (T k).1
def zFn (own : String) (index ci k : Nat) : Prop := ∃ (C : String) (T : u_T) (N : Nat) (ref host : String), vwCl[ci]? = some (C, T, N) ∧ (∀ w ∈ u_ws C T N, w ∈ zTb) ∧ k < N ∧ Cond.fieldLinkNest own index ref (T k).2.1 (T k).2.2.1 host ∈ zNests ∧ ref = (T k).1
def zTy (ci k : Nat) (fin : Bool) (own : String) (ty : FieldType) : Prop := ∃ (C : String) (T : u_T) (N : Nat) (ty0 : Nat → FieldType), vwCl[ci]? = some (C, T, N) ∧ (∀ k, k < N → parseFieldDescriptor (T k).2.2.1 = some (ty0 k)) ∧ (∀ a, a < N → ∀ b, b < N → a ≠ b → (T a).2.1 ≠ (T b).2.1) ∧ (T k).2.2.2 = fin ∧ (fin = true → (T k).1 = own) ∧ parseFieldDescriptor (T k).2.2.1 = some ty
/-- what a call needs of a contract: its own room in the caller's -/
def zRm (Rc R : Room) (nLc : Nat) (κ : zκ) : Prop := Rc.frames + 1 ≤ R.frames ∧ 8 + (nLc + 11) + Rc.locals ≤ R.locals ∧ κ.2.1 + Rc.cells ≤ R.cells ∧ κ.2.2 + Rc.slots ≤ R.slots
theorem zBlind {D : va_G} {cy : Nat → ClassId} {w : zW} {f : zF} {sz : Nat} {av : List Value} : FrameBlind (va_Pc av (zPre D cy w f sz)) := by
  intro a U g mk q
  obtain ⟨q0, q1, q2, q3, q4, q5, q6, q7, q8, q9⟩ := q
  have hvm : U.vm = (U.calling g mk a).vm := rfl
  exact ⟨q0, q1, q2, q3, va_K.moved (u := U) (U := U.calling g mk a) (Vm.Alike.refl U.vm) q4, fun x hx => zNw_same (zNests_ok x hx) hvm (q5 x hx), q6.go (Vm.Alike.refl U.vm) (fun _ _ _ => rfl) (fun _ h => h), va_AO.moved (u := U) (U := U.calling g mk a) (Vm.Alike.refl U.vm) q7, va_AO.moved (u := U) (U := U.calling g mk a) (Vm.Alike.refl U.vm) q8, va_AO.moved (u := U) (U := U.calling g mk a) (Vm.Alike.refl U.vm) q9⟩
theorem zSub {w : zW} {A : Nat → Prop} {H0 H : Heap} {locs : List Loc} (hAl : zAll w A) (hS : va_S A H0 H locs) (hA : ∀ q, H0.size ≤ q → A q) : ∀ q, zAd w H.size q → A q := by
  intro q h
  rcases h with ⟨i, h1, h2⟩ | h
  · exact h2 ▸ hAl i h1
  · exact hA q (Nat.le_trans hS.1 h)
theorem zPre_of {D : va_G} {cy : Nat → ClassId} {w : zW} {f : zF} {A : Nat → Prop} {s U : State} {H : Heap} {locs : List Loc} (hP : va_P D vwCl (zl w f) H) (hI : zIn w) (hAl : zAll w A) (hS : va_S A s.heap H locs) (hA : ∀ q, s.heap.size ≤ q → A q) (hK : zK D cy A s) (hU : U.heap = H) (hW : s.WarmedH U.vm) : zPre D cy w f H.size U := by
  obtain ⟨k1, k2, k3, k4, k5, k6⟩ := hK
  refine ⟨by rw [hU], by rw [hU]; exact hP, hI, va_K.moved hW.alike k1, fun x hx => zNw_warm (zNests_ok x hx) hW (k2 x hx), ?_, k4.moved hW.alike, k5.moved hW.alike, k6.moved hW.alike⟩
  rw [hU]
  exact k3.go hW.alike (fun a h1 h2 => hS.2.1 a h1 h2) (zSub hAl hS hA)
theorem zGood {c0 : Cond} {ws : List Cond} (h : ∀ x ∈ ws, x ∈ zTb) : GoodIn zTb ws := fun w hw => ⟨h w hw, good_of_word (zTb_good (h w hw))⟩
theorem zWs_in {y : MethodName} {cc : ByteArray} {nL : Nat} {ret : Option FieldType} (h : Cond.code y cc nL ret ∈ zTb) : ∀ x ∈ zWs y cc nL ret, x ∈ zTb := by
  intro x hx
  rcases List.mem_cons.mp hx with rfl | hx
  · exact h
  · exact hx
section ZC
variable {p : Program} {l : Launch} {e : Env} {R : Room} {s : State} {m : MethodId} {args : Array Value} {below : List Frame} {meth : Method} {c : Code} {H : Heap} {locs : List Loc} {cells slots mc ms : Nat} {Q : State → Prop} {D : va_G} {w : zW} {f : zF} {pc : Nat} {ls : Array Slot} {rest st0 : List Value} {a : Array Value} {A0 : Nat → Prop} {H0 : Heap} {free : Addr → Prop}
/-- behind a call: the whole world anew -/
theorem zCall {post : Option Value → zW → zF → Prop} (hr : va_Run p l e R s m args below meth c H locs cells slots mc ms (F0 m pc ls st0) rest (zQ D w H.size post a) free) (hS : va_S A0 H0 H locs) (hA : ∀ q, zAd w H.size q → A0 q) (hf : ∀ q, free q → A0 q)
    (kk : ∀ (r : Option Value) (w' : zW) (f' : zF) (H1 : Heap) (locs1 : List Loc), post r w' f' → va_P D vwCl (zl w' f') H1 → zIn w' → zAll w' A0 → w.1 ≤ w'.1 → (∀ i, i < w.1 → w'.2 i = w.2 i) → va_S A0 H0 H1 locs1 → W p l e R s m args below meth c H1 locs1 (cells + mc) (slots + ms) Q (F0 m (pc + 3) ls (r.toList ++ rest))) : W p l e R s m args below meth c H locs cells slots Q (F0 m pc ls st0) := by
  intro T hT X
  obtain ⟨v, st₀, t, T', L, h0, X', hL, e1, e2, ⟨⟨r, w', f', hv, hp, g1, g2, g3, g4, g5⟩, hz, hk⟩, st⟩ := hr T hT X
  cases hv
  rw [h0] at hz hk
  obtain ⟨t2, a1, b1⟩ := kk v w' f' T'.heap (locs ++ L) hp (by rw [e1]; exact g1) g2 (fun i hi => hA _ (g3 i hi)) g4 g5
    ⟨Nat.le_trans hS.1 (by rw [e1]; exact hz), fun q h1 h2 => by rw [e1, hk q (Nat.lt_of_lt_of_le h1 hS.1) (fun z => h2 (hA q z))]; exact hS.2.1 q h1 h2, fun q hq => by
      rcases List.mem_append.mp hq with h | h
      · exact hS.2.2 q h
      · exact hf _ (hL q h)⟩ T' rfl X'
  exact ⟨t2, st t2 a1, b1⟩
end ZC
theorem zw_min_static : Cond.static Lib.Math.min.name ∈ zTb := zt2 193 (by decide +kernel) (by decide +kernel)
theorem zw_min_init : Cond.initialized "java/lang/Math" ∈ zTb := zt1 11 (by decide +kernel) (by decide +kernel)
theorem zw_min_code : Cond.code Lib.Math.min.name Lib.Math.min.code 2 (some .int) ∈ zTb := zt2 194 (by decide +kernel) (by decide +kernel)
theorem zw_obj_inst : Cond.instanceMethod objectInit ∈ zTb := zt1 19 (by decide +kernel) (by decide +kernel)
theorem zw_obj_code : Cond.code objectInit ⟨#[0xb1]⟩ 1 none ∈ zTb := zt1 20 (by decide +kernel) (by decide +kernel)
section ZR
variable {l : Launch} {D : va_G} {cy : Nat → ClassId} {own : String} {cc : ByteArray} {nL : Nat} {R : Room} {nm : String} {G : zJ} {κ : zκ} {f : zF} {ls ls' : List (Nat × Value)} {pc : Nat} {st : List Value}
theorem zr_iconst (X : zX l D cy own cc nL R nm G) {n : Int} {v : Int32} (d : decode cc pc = .ok (.iconst n, 1)) (hv : Int32.ofInt n = v) (k : G κ f ls (pc + 1) (.int v :: st)) : G κ f ls pc (st) := by
  obtain ⟨p, e, s, m, args, below, meth, c, Q, A, rfl, hx, hb, hml, hnm, hown, hts, hA, hK⟩ := X
  intro H locs arr hP hI hAl hS hl
  exact lv_iconst hx hb d hv (k H locs arr hP hI hAl hS hl)
theorem zr_bipush (X : zX l D cy own cc nL R nm G) {n : Int} {v : Int32} (d : decode cc pc = .ok (.bipush n, 2)) (hv : (Int8.ofInt n).toInt32 = v) (k : G κ f ls (pc + 2) (.int v :: st)) : G κ f ls pc (st) := by
  obtain ⟨p, e, s, m, args, below, meth, c, Q, A, rfl, hx, hb, hml, hnm, hown, hts, hA, hK⟩ := X
  intro H locs arr hP hI hAl hS hl
  exact lv_bipush hx hb d hv (k H locs arr hP hI hAl hS hl)
theorem zr_sipush (X : zX l D cy own cc nL R nm G) {n : Int} {v : Int32} (d : decode cc pc = .ok (.sipush n, 3)) (hv : (Int16.ofInt n).toInt32 = v) (k : G κ f ls (pc + 3) (.int v :: st)) : G κ f ls pc (st) := by
  obtain ⟨p, e, s, m, args, below, meth, c, Q, A, rfl, hx, hb, hml, hnm, hown, hts, hA, hK⟩ := X
  intro H locs arr hP hI hAl hS hl
  exact lv_sipush hx hb d hv (k H locs arr hP hI hAl hS hl)
theorem zr_iload_n (X : zX l D cy own cc nL R nm G) {q : Fin 4} {i : Nat} {x : Int32} (j : Nat) (d : decode cc pc = .ok (.iload_n q, 1)) (hi : (q : Nat) = i) (h : ls[j]? = some (i, .int x)) (k : G κ f ls (pc + 1) (.int x :: st)) : G κ f ls pc (st) := by
  obtain ⟨p, e, s, m, args, below, meth, c, Q, A, rfl, hx, hb, hml, hnm, hown, hts, hA, hK⟩ := X
  intro H locs arr hP hI hAl hS hl
  exact lv_iload_n hx hb d hi (lv_at hl j h) (k H locs arr hP hI hAl hS hl)
theorem zr_iload (X : zX l D cy own cc nL R nm G) {i : Nat} {x : Int32} (j : Nat) (d : decode cc pc = .ok (.iload i, 2)) (h : ls[j]? = some (i, .int x)) (k : G κ f ls (pc + 2) (.int x :: st)) : G κ f ls pc (st) := by
  obtain ⟨p, e, s, m, args, below, meth, c, Q, A, rfl, hx, hb, hml, hnm, hown, hts, hA, hK⟩ := X
  intro H locs arr hP hI hAl hS hl
  exact lv_iload hx hb d (lv_at hl j h) (k H locs arr hP hI hAl hS hl)
theorem zr_aload_n (X : zX l D cy own cc nL R nm G) {q : Fin 4} {i : Nat} {x : Nat} (j : Nat) (d : decode cc pc = .ok (.aload_n q, 1)) (hi : (q : Nat) = i) (h : ls[j]? = some (i, .ref x)) (k : G κ f ls (pc + 1) (.ref x :: st)) : G κ f ls pc (st) := by
  obtain ⟨p, e, s, m, args, below, meth, c, Q, A, rfl, hx, hb, hml, hnm, hown, hts, hA, hK⟩ := X
  intro H locs arr hP hI hAl hS hl
  exact lv_aload_n hx hb d hi (lv_at hl j h) (k H locs arr hP hI hAl hS hl)
theorem zr_aload (X : zX l D cy own cc nL R nm G) {i : Nat} {x : Nat} (j : Nat) (d : decode cc pc = .ok (.aload i, 2)) (h : ls[j]? = some (i, .ref x)) (k : G κ f ls (pc + 2) (.ref x :: st)) : G κ f ls pc (st) := by
  obtain ⟨p, e, s, m, args, below, meth, c, Q, A, rfl, hx, hb, hml, hnm, hown, hts, hA, hK⟩ := X
  intro H locs arr hP hI hAl hS hl
  exact lv_aload hx hb d (lv_at hl j h) (k H locs arr hP hI hAl hS hl)
theorem zr_fload_n (X : zX l D cy own cc nL R nm G) {q : Fin 4} {i : Nat} {x : UInt32} (j : Nat) (d : decode cc pc = .ok (.fload_n q, 1)) (hi : (q : Nat) = i) (h : ls[j]? = some (i, .float x)) (k : G κ f ls (pc + 1) (.float x :: st)) : G κ f ls pc (st) := by
  obtain ⟨p, e, s, m, args, below, meth, c, Q, A, rfl, hx, hb, hml, hnm, hown, hts, hA, hK⟩ := X
  intro H locs arr hP hI hAl hS hl
  exact lv_fload_n hx hb d hi (lv_at hl j h) (k H locs arr hP hI hAl hS hl)
theorem zr_fload (X : zX l D cy own cc nL R nm G) {i : Nat} {x : UInt32} (j : Nat) (d : decode cc pc = .ok (.fload i, 2)) (h : ls[j]? = some (i, .float x)) (k : G κ f ls (pc + 2) (.float x :: st)) : G κ f ls pc (st) := by
  obtain ⟨p, e, s, m, args, below, meth, c, Q, A, rfl, hx, hb, hml, hnm, hown, hts, hA, hK⟩ := X
  intro H locs arr hP hI hAl hS hl
  exact lv_fload hx hb d (lv_at hl j h) (k H locs arr hP hI hAl hS hl)
theorem zr_aload_nN (X : zX l D cy own cc nL R nm G) {q : Fin 4} {i : Nat} (j : Nat) (d : decode cc pc = .ok (.aload_n q, 1)) (hi : (q : Nat) = i) (h : ls[j]? = some (i, .null)) (k : G κ f ls (pc + 1) (.null :: st)) : G κ f ls pc (st) := by
  obtain ⟨p, e, s, m, args, below, meth, c, Q, A, rfl, hx, hb, hml, hnm, hown, hts, hA, hK⟩ := X
  intro H locs arr hP hI hAl hS hl
  exact lv_aload_nN hx hb d hi (lv_at hl j h) (k H locs arr hP hI hAl hS hl)
theorem zr_aloadN (X : zX l D cy own cc nL R nm G) {i : Nat} (j : Nat) (d : decode cc pc = .ok (.aload i, 2)) (h : ls[j]? = some (i, .null)) (k : G κ f ls (pc + 2) (.null :: st)) : G κ f ls pc (st) := by
  obtain ⟨p, e, s, m, args, below, meth, c, Q, A, rfl, hx, hb, hml, hnm, hown, hts, hA, hK⟩ := X
  intro H locs arr hP hI hAl hS hl
  exact lv_aloadN hx hb d (lv_at hl j h) (k H locs arr hP hI hAl hS hl)
theorem zr_istore_n (X : zX l D cy own cc nL R nm G) {q : Fin 4} {i : Nat} {x : Int32} (d : decode cc pc = .ok (.istore_n q, 1)) (hi : (q : Nat) = i) (hn : i < nL) (h : (i, Value.int x) :: ls.filter (fun q => !(q.1 == i) && !(q.1 + 1 == i && q.2.category == 2)) = ls') (k : G κ f ls' (pc + 1) st) : G κ f ls pc (Value.int x :: st) := by
  obtain ⟨p, e, s, m, args, below, meth, c, Q, A, rfl, hx, hb, hml, hnm, hown, hts, hA, hK⟩ := X
  intro H locs arr hP hI hAl hS hl
  exact lv_istore_n hx hb d hi hl hn h (fun arr' hl' => k H locs arr' hP hI hAl hS hl')
theorem zr_istore (X : zX l D cy own cc nL R nm G) {i : Nat} {x : Int32} (d : decode cc pc = .ok (.istore i, 2)) (hn : i < nL) (h : (i, Value.int x) :: ls.filter (fun q => !(q.1 == i) && !(q.1 + 1 == i && q.2.category == 2)) = ls') (k : G κ f ls' (pc + 2) st) : G κ f ls pc (Value.int x :: st) := by
  obtain ⟨p, e, s, m, args, below, meth, c, Q, A, rfl, hx, hb, hml, hnm, hown, hts, hA, hK⟩ := X
  intro H locs arr hP hI hAl hS hl
  exact lv_istore hx hb d hl hn h (fun arr' hl' => k H locs arr' hP hI hAl hS hl')
theorem zr_astore_n (X : zX l D cy own cc nL R nm G) {q : Fin 4} {i : Nat} {x : Nat} (d : decode cc pc = .ok (.astore_n q, 1)) (hi : (q : Nat) = i) (hn : i < nL) (h : (i, Value.ref x) :: ls.filter (fun q => !(q.1 == i) && !(q.1 + 1 == i && q.2.category == 2)) = ls') (k : G κ f ls' (pc + 1) st) : G κ f ls pc (Value.ref x :: st) := by
  obtain ⟨p, e, s, m, args, below, meth, c, Q, A, rfl, hx, hb, hml, hnm, hown, hts, hA, hK⟩ := X
  intro H locs arr hP hI hAl hS hl
  exact lv_astore_n hx hb d hi hl hn h (fun arr' hl' => k H locs arr' hP hI hAl hS hl')
theorem zr_astore (X : zX l D cy own cc nL R nm G) {i : Nat} {x : Nat} (d : decode cc pc = .ok (.astore i, 2)) (hn : i < nL) (h : (i, Value.ref x) :: ls.filter (fun q => !(q.1 == i) && !(q.1 + 1 == i && q.2.category == 2)) = ls') (k : G κ f ls' (pc + 2) st) : G κ f ls pc (Value.ref x :: st) := by
  obtain ⟨p, e, s, m, args, below, meth, c, Q, A, rfl, hx, hb, hml, hnm, hown, hts, hA, hK⟩ := X
  intro H locs arr hP hI hAl hS hl
  exact lv_astore hx hb d hl hn h (fun arr' hl' => k H locs arr' hP hI hAl hS hl')
theorem zr_fstore_n (X : zX l D cy own cc nL R nm G) {q : Fin 4} {i : Nat} {x : UInt32} (d : decode cc pc = .ok (.fstore_n q, 1)) (hi : (q : Nat) = i) (hn : i < nL) (h : (i, Value.float x) :: ls.filter (fun q => !(q.1 == i) && !(q.1 + 1 == i && q.2.category == 2)) = ls') (k : G κ f ls' (pc + 1) st) : G κ f ls pc (Value.float x :: st) := by
  obtain ⟨p, e, s, m, args, below, meth, c, Q, A, rfl, hx, hb, hml, hnm, hown, hts, hA, hK⟩ := X
  intro H locs arr hP hI hAl hS hl
  exact lv_fstore_n hx hb d hi hl hn h (fun arr' hl' => k H locs arr' hP hI hAl hS hl')
theorem zr_fstore (X : zX l D cy own cc nL R nm G) {i : Nat} {x : UInt32} (d : decode cc pc = .ok (.fstore i, 2)) (hn : i < nL) (h : (i, Value.float x) :: ls.filter (fun q => !(q.1 == i) && !(q.1 + 1 == i && q.2.category == 2)) = ls') (k : G κ f ls' (pc + 2) st) : G κ f ls pc (Value.float x :: st) := by
  obtain ⟨p, e, s, m, args, below, meth, c, Q, A, rfl, hx, hb, hml, hnm, hown, hts, hA, hK⟩ := X
  intro H locs arr hP hI hAl hS hl
  exact lv_fstore hx hb d hl hn h (fun arr' hl' => k H locs arr' hP hI hAl hS hl')
theorem zr_astore_nN (X : zX l D cy own cc nL R nm G) {q : Fin 4} {i : Nat} (d : decode cc pc = .ok (.astore_n q, 1)) (hi : (q : Nat) = i) (hn : i < nL) (h : (i, Value.null) :: ls.filter (fun q => !(q.1 == i) && !(q.1 + 1 == i && q.2.category == 2)) = ls') (k : G κ f ls' (pc + 1) st) : G κ f ls pc (Value.null :: st) := by
  obtain ⟨p, e, s, m, args, below, meth, c, Q, A, rfl, hx, hb, hml, hnm, hown, hts, hA, hK⟩ := X
  intro H locs arr hP hI hAl hS hl
  exact lv_astore_nN hx hb d hi hl hn h (fun arr' hl' => k H locs arr' hP hI hAl hS hl')
theorem zr_astoreN (X : zX l D cy own cc nL R nm G) {i : Nat} (d : decode cc pc = .ok (.astore i, 2)) (hn : i < nL) (h : (i, Value.null) :: ls.filter (fun q => !(q.1 == i) && !(q.1 + 1 == i && q.2.category == 2)) = ls') (k : G κ f ls' (pc + 2) st) : G κ f ls pc (Value.null :: st) := by
  obtain ⟨p, e, s, m, args, below, meth, c, Q, A, rfl, hx, hb, hml, hnm, hown, hts, hA, hK⟩ := X
  intro H locs arr hP hI hAl hS hl
  exact lv_astoreN hx hb d hl hn h (fun arr' hl' => k H locs arr' hP hI hAl hS hl')
theorem zr_iinc (X : zX l D cy own cc nL R nm G) {i : Nat} {n : Int} {x v : Int32} (j : Nat) (d : decode cc pc = .ok (.iinc i n, 3)) (hj : ls[j]? = some (i, .int x)) (hv : x + Int32.ofInt n = v) (hn : i < nL) (h : (i, Value.int v) :: ls.filter (fun q => !(q.1 == i) && !(q.1 + 1 == i && q.2.category == 2)) = ls') (k : G κ f ls' (pc + 3) st) : G κ f ls pc (st) := by
  obtain ⟨p, e, s, m, args, below, meth, c, Q, A, rfl, hx, hb, hml, hnm, hown, hts, hA, hK⟩ := X
  intro H locs arr hP hI hAl hS hl
  exact lv_iinc hx hb d hl hj hv hn h (fun arr' hl' => k H locs arr' hP hI hAl hS hl')
theorem zr_iadd (X : zX l D cy own cc nL R nm G) {x y : Int32} (d : decode cc pc = .ok (.iadd, 1))  (k : G κ f ls (pc + 1) (.int (x + y) :: st)) : G κ f ls pc (.int y :: .int x :: st) := by
  obtain ⟨p, e, s, m, args, below, meth, c, Q, A, rfl, hx, hb, hml, hnm, hown, hts, hA, hK⟩ := X
  intro H locs arr hP hI hAl hS hl
  exact lv_iadd hx hb d (k H locs arr hP hI hAl hS hl)
theorem zr_isub (X : zX l D cy own cc nL R nm G) {x y : Int32} (d : decode cc pc = .ok (.isub, 1))  (k : G κ f ls (pc + 1) (.int (x - y) :: st)) : G κ f ls pc (.int y :: .int x :: st) := by
  obtain ⟨p, e, s, m, args, below, meth, c, Q, A, rfl, hx, hb, hml, hnm, hown, hts, hA, hK⟩ := X
  intro H locs arr hP hI hAl hS hl
  exact lv_isub hx hb d (k H locs arr hP hI hAl hS hl)
theorem zr_imul (X : zX l D cy own cc nL R nm G) {x y : Int32} (d : decode cc pc = .ok (.imul, 1))  (k : G κ f ls (pc + 1) (.int (x * y) :: st)) : G κ f ls pc (.int y :: .int x :: st) := by
  obtain ⟨p, e, s, m, args, below, meth, c, Q, A, rfl, hx, hb, hml, hnm, hown, hts, hA, hK⟩ := X
  intro H locs arr hP hI hAl hS hl
  exact lv_imul hx hb d (k H locs arr hP hI hAl hS hl)
theorem zr_iand (X : zX l D cy own cc nL R nm G) {x y : Int32} (d : decode cc pc = .ok (.iand, 1))  (k : G κ f ls (pc + 1) (.int (x &&& y) :: st)) : G κ f ls pc (.int y :: .int x :: st) := by
  obtain ⟨p, e, s, m, args, below, meth, c, Q, A, rfl, hx, hb, hml, hnm, hown, hts, hA, hK⟩ := X
  intro H locs arr hP hI hAl hS hl
  exact lv_iand hx hb d (k H locs arr hP hI hAl hS hl)
theorem zr_ior (X : zX l D cy own cc nL R nm G) {x y : Int32} (d : decode cc pc = .ok (.ior, 1))  (k : G κ f ls (pc + 1) (.int (x ||| y) :: st)) : G κ f ls pc (.int y :: .int x :: st) := by
  obtain ⟨p, e, s, m, args, below, meth, c, Q, A, rfl, hx, hb, hml, hnm, hown, hts, hA, hK⟩ := X
  intro H locs arr hP hI hAl hS hl
  exact lv_ior hx hb d (k H locs arr hP hI hAl hS hl)
theorem zr_ishl (X : zX l D cy own cc nL R nm G) {x y : Int32} (d : decode cc pc = .ok (.ishl, 1))  (k : G κ f ls (pc + 1) (.int (x <<< (y &&& 31)) :: st)) : G κ f ls pc (.int y :: .int x :: st) := by
  obtain ⟨p, e, s, m, args, below, meth, c, Q, A, rfl, hx, hb, hml, hnm, hown, hts, hA, hK⟩ := X
  intro H locs arr hP hI hAl hS hl
  exact lv_ishl hx hb d (k H locs arr hP hI hAl hS hl)
theorem zr_idiv (X : zX l D cy own cc nL R nm G) {x y : Int32} (d : decode cc pc = .ok (.idiv, 1)) (hne : ¬ y = 0) (k : G κ f ls (pc + 1) (.int (x / y) :: st)) : G κ f ls pc (.int y :: .int x :: st) := by
  obtain ⟨p, e, s, m, args, below, meth, c, Q, A, rfl, hx, hb, hml, hnm, hown, hts, hA, hK⟩ := X
  intro H locs arr hP hI hAl hS hl
  exact lv_idiv hx hb d hne (k H locs arr hP hI hAl hS hl)
theorem zr_irem (X : zX l D cy own cc nL R nm G) {x y : Int32} (d : decode cc pc = .ok (.irem, 1)) (hne : ¬ y = 0) (k : G κ f ls (pc + 1) (.int (x - x / y * y) :: st)) : G κ f ls pc (.int y :: .int x :: st) := by
  obtain ⟨p, e, s, m, args, below, meth, c, Q, A, rfl, hx, hb, hml, hnm, hown, hts, hA, hK⟩ := X
  intro H locs arr hP hI hAl hS hl
  exact lv_irem hx hb d hne (k H locs arr hP hI hAl hS hl)
theorem zr_ineg (X : zX l D cy own cc nL R nm G) {x : Int32} (d : decode cc pc = .ok (.ineg, 1))  (k : G κ f ls (pc + 1) (.int (-x) :: st)) : G κ f ls pc (.int x :: st) := by
  obtain ⟨p, e, s, m, args, below, meth, c, Q, A, rfl, hx, hb, hml, hnm, hown, hts, hA, hK⟩ := X
  intro H locs arr hP hI hAl hS hl
  exact lv_ineg hx hb d (k H locs arr hP hI hAl hS hl)
theorem zr_i2c (X : zX l D cy own cc nL R nm G) {x v : Int32} (d : decode cc pc = .ok (.i2c, 1)) (hv : (x.toUInt32 % 65536).toInt32 = v) (k : G κ f ls (pc + 1) (.int v :: st)) : G κ f ls pc (.int x :: st) := by
  obtain ⟨p, e, s, m, args, below, meth, c, Q, A, rfl, hx, hb, hml, hnm, hown, hts, hA, hK⟩ := X
  intro H locs arr hP hI hAl hS hl
  exact lv_i2c hx hb d hv (k H locs arr hP hI hAl hS hl)
theorem zr_i2f (X : zX l D cy own cc nL R nm G) {x : Int32} (d : decode cc pc = .ok (.i2f, 1))  (k : G κ f ls (pc + 1) (.float (FP.i2f x) :: st)) : G κ f ls pc (.int x :: st) := by
  obtain ⟨p, e, s, m, args, below, meth, c, Q, A, rfl, hx, hb, hml, hnm, hown, hts, hA, hK⟩ := X
  intro H locs arr hP hI hAl hS hl
  exact lv_i2f hx hb d (k H locs arr hP hI hAl hS hl)
theorem zr_f2i (X : zX l D cy own cc nL R nm G) {x : UInt32} (d : decode cc pc = .ok (.f2i, 1))  (k : G κ f ls (pc + 1) (.int (FP.f2i x) :: st)) : G κ f ls pc (.float x :: st) := by
  obtain ⟨p, e, s, m, args, below, meth, c, Q, A, rfl, hx, hb, hml, hnm, hown, hts, hA, hK⟩ := X
  intro H locs arr hP hI hAl hS hl
  exact lv_f2i hx hb d (k H locs arr hP hI hAl hS hl)
theorem zr_fconst0 (X : zX l D cy own cc nL R nm G)  (d : decode cc pc = .ok (.fconst 0, 1))  (k : G κ f ls (pc + 1) (.float FP.fconst0 :: st)) : G κ f ls pc (st) := by
  obtain ⟨p, e, s, m, args, below, meth, c, Q, A, rfl, hx, hb, hml, hnm, hown, hts, hA, hK⟩ := X
  intro H locs arr hP hI hAl hS hl
  exact lv_fconst0 hx hb d (k H locs arr hP hI hAl hS hl)
theorem zr_fconst1 (X : zX l D cy own cc nL R nm G)  (d : decode cc pc = .ok (.fconst 1, 1))  (k : G κ f ls (pc + 1) (.float FP.fconst1 :: st)) : G κ f ls pc (st) := by
  obtain ⟨p, e, s, m, args, below, meth, c, Q, A, rfl, hx, hb, hml, hnm, hown, hts, hA, hK⟩ := X
  intro H locs arr hP hI hAl hS hl
  exact lv_fconst1 hx hb d (k H locs arr hP hI hAl hS hl)
theorem zr_fconst2 (X : zX l D cy own cc nL R nm G)  (d : decode cc pc = .ok (.fconst 2, 1))  (k : G κ f ls (pc + 1) (.float FP.fconst2 :: st)) : G κ f ls pc (st) := by
  obtain ⟨p, e, s, m, args, below, meth, c, Q, A, rfl, hx, hb, hml, hnm, hown, hts, hA, hK⟩ := X
  intro H locs arr hP hI hAl hS hl
  exact lv_fconst2 hx hb d (k H locs arr hP hI hAl hS hl)
theorem zr_fsub (X : zX l D cy own cc nL R nm G) {x y : UInt32} (d : decode cc pc = .ok (.fsub, 1)) (hne : vf_n32 (FP.fsub x y)) (k : G κ f ls (pc + 1) (.float (FP.fsub x y) :: st)) : G κ f ls pc (.float y :: .float x :: st) := by
  obtain ⟨p, e, s, m, args, below, meth, c, Q, A, rfl, hx, hb, hml, hnm, hown, hts, hA, hK⟩ := X
  intro H locs arr hP hI hAl hS hl
  exact lv_fsub hx hb d hne (k H locs arr hP hI hAl hS hl)
theorem zr_fmul (X : zX l D cy own cc nL R nm G) {x y : UInt32} (d : decode cc pc = .ok (.fmul, 1)) (hne : vf_n32 (FP.fmul x y)) (k : G κ f ls (pc + 1) (.float (FP.fmul x y) :: st)) : G κ f ls pc (.float y :: .float x :: st) := by
  obtain ⟨p, e, s, m, args, below, meth, c, Q, A, rfl, hx, hb, hml, hnm, hown, hts, hA, hK⟩ := X
  intro H locs arr hP hI hAl hS hl
  exact lv_fmul hx hb d hne (k H locs arr hP hI hAl hS hl)
theorem zr_fdiv (X : zX l D cy own cc nL R nm G) {x y : UInt32} (d : decode cc pc = .ok (.fdiv, 1)) (hne : vf_n32 (FP.fdiv x y)) (k : G κ f ls (pc + 1) (.float (FP.fdiv x y) :: st)) : G κ f ls pc (.float y :: .float x :: st) := by
  obtain ⟨p, e, s, m, args, below, meth, c, Q, A, rfl, hx, hb, hml, hnm, hown, hts, hA, hK⟩ := X
  intro H locs arr hP hI hAl hS hl
  exact lv_fdiv hx hb d hne (k H locs arr hP hI hAl hS hl)
theorem zr_dup (X : zX l D cy own cc nL R nm G) {v : Value} (d : decode cc pc = .ok (.dup, 1)) (hc : v.category = 1) (k : G κ f ls (pc + 1) (v :: v :: st)) : G κ f ls pc (v :: st) := by
  obtain ⟨p, e, s, m, args, below, meth, c, Q, A, rfl, hx, hb, hml, hnm, hown, hts, hA, hK⟩ := X
  intro H locs arr hP hI hAl hS hl
  exact lv_dup hx hb d hc (k H locs arr hP hI hAl hS hl)
theorem zr_pop (X : zX l D cy own cc nL R nm G) {v : Value} (d : decode cc pc = .ok (.pop, 1)) (hc : v.category = 1) (k : G κ f ls (pc + 1) (st)) : G κ f ls pc (v :: st) := by
  obtain ⟨p, e, s, m, args, below, meth, c, Q, A, rfl, hx, hb, hml, hnm, hown, hts, hA, hK⟩ := X
  intro H locs arr hP hI hAl hS hl
  exact lv_pop hx hb d hc (k H locs arr hP hI hAl hS hl)
theorem zr_dup2 (X : zX l D cy own cc nL R nm G) {v u : Value} (d : decode cc pc = .ok (.dup2, 1)) (hc : v.category = 1) (hd : u.category = 1) (k : G κ f ls (pc + 1) (v :: u :: v :: u :: st)) : G κ f ls pc (v :: u :: st) := by
  obtain ⟨p, e, s, m, args, below, meth, c, Q, A, rfl, hx, hb, hml, hnm, hown, hts, hA, hK⟩ := X
  intro H locs arr hP hI hAl hS hl
  exact lv_dup2_11 hx hb d hc hd (k H locs arr hP hI hAl hS hl)
theorem zr_null (X : zX l D cy own cc nL R nm G)  (d : decode cc pc = .ok (.aconst_null, 1))  (k : G κ f ls (pc + 1) (.null :: st)) : G κ f ls pc (st) := by
  obtain ⟨p, e, s, m, args, below, meth, c, Q, A, rfl, hx, hb, hml, hnm, hown, hts, hA, hK⟩ := X
  intro H locs arr hP hI hAl hS hl
  exact lv_null hx hb d (k H locs arr hP hI hAl hS hl)
theorem zr_ifnull (X : zX l D cy own cc nL R nm G) {off : Int} {x : Nat} (d : decode cc pc = .ok (.ifnull off, 3))  (k : G κ f ls (pc + 3) (st)) : G κ f ls pc (.ref x :: st) := by
  obtain ⟨p, e, s, m, args, below, meth, c, Q, A, rfl, hx, hb, hml, hnm, hown, hts, hA, hK⟩ := X
  intro H locs arr hP hI hAl hS hl
  exact lv_ifnull hx hb d (k H locs arr hP hI hAl hS hl)
theorem zr_ifnonnullN (X : zX l D cy own cc nL R nm G) {off : Int} (d : decode cc pc = .ok (.ifnonnull off, 3))  (k : G κ f ls (pc + 3) (st)) : G κ f ls pc (.null :: st) := by
  obtain ⟨p, e, s, m, args, below, meth, c, Q, A, rfl, hx, hb, hml, hnm, hown, hts, hA, hK⟩ := X
  intro H locs arr hP hI hAl hS hl
  exact lv_ifnonnullN hx hb d (k H locs arr hP hI hAl hS hl)
theorem zr_ifnonnull (X : zX l D cy own cc nL R nm G) {off : Int} {tgt x : Nat} (d : decode cc pc = .ok (.ifnonnull off, 3)) (ht : (pc : Int) + off = (tgt : Int)) (k : G κ f ls tgt st) : G κ f ls pc (.ref x :: st) := by
  obtain ⟨p, e, s, m, args, below, meth, c, Q, A, rfl, hx, hb, hml, hnm, hown, hts, hA, hK⟩ := X
  intro H locs arr hP hI hAl hS hl
  exact lv_ifnonnull hx hb d ht (k H locs arr hP hI hAl hS hl)
theorem zr_ifnullN (X : zX l D cy own cc nL R nm G) {off : Int} {tgt : Nat} (d : decode cc pc = .ok (.ifnull off, 3)) (ht : (pc : Int) + off = (tgt : Int)) (k : G κ f ls tgt st) : G κ f ls pc (.null :: st) := by
  obtain ⟨p, e, s, m, args, below, meth, c, Q, A, rfl, hx, hb, hml, hnm, hown, hts, hA, hK⟩ := X
  intro H locs arr hP hI hAl hS hl
  exact lv_ifnullN hx hb d ht (k H locs arr hP hI hAl hS hl)
theorem zr_goto (X : zX l D cy own cc nL R nm G) {off : Int} {tgt : Nat} (d : decode cc pc = .ok (.goto off, 3)) (ht : (pc : Int) + off = (tgt : Int)) (k : G κ f ls tgt st) : G κ f ls pc (st) := by
  obtain ⟨p, e, s, m, args, below, meth, c, Q, A, rfl, hx, hb, hml, hnm, hown, hts, hA, hK⟩ := X
  intro H locs arr hP hI hAl hS hl
  exact lv_goto hx hb d ht (k H locs arr hP hI hAl hS hl)
theorem zr_if_eq (X : zX l D cy own cc nL R nm G) {x : Int32} {off : Int} {tgt : Nat} (d : decode cc pc = .ok (.ifCond .eq off, 3)) (ht : (pc : Int) + off = (tgt : Int)) (kt : x = 0 → G κ f ls tgt st) (kf : ¬ x = 0 → G κ f ls (pc + 3) st) : G κ f ls pc (.int x :: st) := by
  obtain ⟨p, e, s, m, args, below, meth, c, Q, A, rfl, hx, hb, hml, hnm, hown, hts, hA, hK⟩ := X
  intro H locs arr hP hI hAl hS hl
  exact lv_if_eq hx hb d ht (fun h => kt h H locs arr hP hI hAl hS hl) (fun h => kf h H locs arr hP hI hAl hS hl)
theorem zr_icmp_eq (X : zX l D cy own cc nL R nm G) {x y : Int32} {off : Int} {tgt : Nat} (d : decode cc pc = .ok (.if_icmp .eq off, 3)) (ht : (pc : Int) + off = (tgt : Int)) (kt : x = y → G κ f ls tgt st) (kf : ¬ x = y → G κ f ls (pc + 3) st) : G κ f ls pc (.int y :: .int x :: st) := by
  obtain ⟨p, e, s, m, args, below, meth, c, Q, A, rfl, hx, hb, hml, hnm, hown, hts, hA, hK⟩ := X
  intro H locs arr hP hI hAl hS hl
  exact lv_icmp_eq hx hb d ht (fun h => kt h H locs arr hP hI hAl hS hl) (fun h => kf h H locs arr hP hI hAl hS hl)
theorem zr_if_ne (X : zX l D cy own cc nL R nm G) {x : Int32} {off : Int} {tgt : Nat} (d : decode cc pc = .ok (.ifCond .ne off, 3)) (ht : (pc : Int) + off = (tgt : Int)) (kt : ¬ x = 0 → G κ f ls tgt st) (kf : x = 0 → G κ f ls (pc + 3) st) : G κ f ls pc (.int x :: st) := by
  obtain ⟨p, e, s, m, args, below, meth, c, Q, A, rfl, hx, hb, hml, hnm, hown, hts, hA, hK⟩ := X
  intro H locs arr hP hI hAl hS hl
  exact lv_if_ne hx hb d ht (fun h => kt h H locs arr hP hI hAl hS hl) (fun h => kf h H locs arr hP hI hAl hS hl)
theorem zr_icmp_ne (X : zX l D cy own cc nL R nm G) {x y : Int32} {off : Int} {tgt : Nat} (d : decode cc pc = .ok (.if_icmp .ne off, 3)) (ht : (pc : Int) + off = (tgt : Int)) (kt : ¬ x = y → G κ f ls tgt st) (kf : x = y → G κ f ls (pc + 3) st) : G κ f ls pc (.int y :: .int x :: st) := by
  obtain ⟨p, e, s, m, args, below, meth, c, Q, A, rfl, hx, hb, hml, hnm, hown, hts, hA, hK⟩ := X
  intro H locs arr hP hI hAl hS hl
  exact lv_icmp_ne hx hb d ht (fun h => kt h H locs arr hP hI hAl hS hl) (fun h => kf h H locs arr hP hI hAl hS hl)
theorem zr_if_lt (X : zX l D cy own cc nL R nm G) {x : Int32} {off : Int} {tgt : Nat} (d : decode cc pc = .ok (.ifCond .lt off, 3)) (ht : (pc : Int) + off = (tgt : Int)) (kt : x < 0 → G κ f ls tgt st) (kf : ¬ x < 0 → G κ f ls (pc + 3) st) : G κ f ls pc (.int x :: st) := by
  obtain ⟨p, e, s, m, args, below, meth, c, Q, A, rfl, hx, hb, hml, hnm, hown, hts, hA, hK⟩ := X
  intro H locs arr hP hI hAl hS hl
  exact lv_if_lt hx hb d ht (fun h => kt h H locs arr hP hI hAl hS hl) (fun h => kf h H locs arr hP hI hAl hS hl)
theorem zr_icmp_lt (X : zX l D cy own cc nL R nm G) {x y : Int32} {off : Int} {tgt : Nat} (d : decode cc pc = .ok (.if_icmp .lt off, 3)) (ht : (pc : Int) + off = (tgt : Int)) (kt : x < y → G κ f ls tgt st) (kf : ¬ x < y → G κ f ls (pc + 3) st) : G κ f ls pc (.int y :: .int x :: st) := by
  obtain ⟨p, e, s, m, args, below, meth, c, Q, A, rfl, hx, hb, hml, hnm, hown, hts, hA, hK⟩ := X
  intro H locs arr hP hI hAl hS hl
  exact lv_icmp_lt hx hb d ht (fun h => kt h H locs arr hP hI hAl hS hl) (fun h => kf h H locs arr hP hI hAl hS hl)
theorem zr_if_ge (X : zX l D cy own cc nL R nm G) {x : Int32} {off : Int} {tgt : Nat} (d : decode cc pc = .ok (.ifCond .ge off, 3)) (ht : (pc : Int) + off = (tgt : Int)) (kt : 0 ≤ x → G κ f ls tgt st) (kf : ¬ 0 ≤ x → G κ f ls (pc + 3) st) : G κ f ls pc (.int x :: st) := by
  obtain ⟨p, e, s, m, args, below, meth, c, Q, A, rfl, hx, hb, hml, hnm, hown, hts, hA, hK⟩ := X
  intro H locs arr hP hI hAl hS hl
  exact lv_if_ge hx hb d ht (fun h => kt h H locs arr hP hI hAl hS hl) (fun h => kf h H locs arr hP hI hAl hS hl)
theorem zr_icmp_ge (X : zX l D cy own cc nL R nm G) {x y : Int32} {off : Int} {tgt : Nat} (d : decode cc pc = .ok (.if_icmp .ge off, 3)) (ht : (pc : Int) + off = (tgt : Int)) (kt : y ≤ x → G κ f ls tgt st) (kf : ¬ y ≤ x → G κ f ls (pc + 3) st) : G κ f ls pc (.int y :: .int x :: st) := by
  obtain ⟨p, e, s, m, args, below, meth, c, Q, A, rfl, hx, hb, hml, hnm, hown, hts, hA, hK⟩ := X
  intro H locs arr hP hI hAl hS hl
  exact lv_icmp_ge hx hb d ht (fun h => kt h H locs arr hP hI hAl hS hl) (fun h => kf h H locs arr hP hI hAl hS hl)
theorem zr_if_gt (X : zX l D cy own cc nL R nm G) {x : Int32} {off : Int} {tgt : Nat} (d : decode cc pc = .ok (.ifCond .gt off, 3)) (ht : (pc : Int) + off = (tgt : Int)) (kt : 0 < x → G κ f ls tgt st) (kf : ¬ 0 < x → G κ f ls (pc + 3) st) : G κ f ls pc (.int x :: st) := by
  obtain ⟨p, e, s, m, args, below, meth, c, Q, A, rfl, hx, hb, hml, hnm, hown, hts, hA, hK⟩ := X
  intro H locs arr hP hI hAl hS hl
  exact lv_if_gt hx hb d ht (fun h => kt h H locs arr hP hI hAl hS hl) (fun h => kf h H locs arr hP hI hAl hS hl)
theorem zr_icmp_gt (X : zX l D cy own cc nL R nm G) {x y : Int32} {off : Int} {tgt : Nat} (d : decode cc pc = .ok (.if_icmp .gt off, 3)) (ht : (pc : Int) + off = (tgt : Int)) (kt : y < x → G κ f ls tgt st) (kf : ¬ y < x → G κ f ls (pc + 3) st) : G κ f ls pc (.int y :: .int x :: st) := by
  obtain ⟨p, e, s, m, args, below, meth, c, Q, A, rfl, hx, hb, hml, hnm, hown, hts, hA, hK⟩ := X
  intro H locs arr hP hI hAl hS hl
  exact lv_icmp_gt hx hb d ht (fun h => kt h H locs arr hP hI hAl hS hl) (fun h => kf h H locs arr hP hI hAl hS hl)
theorem zr_if_le (X : zX l D cy own cc nL R nm G) {x : Int32} {off : Int} {tgt : Nat} (d : decode cc pc = .ok (.ifCond .le off, 3)) (ht : (pc : Int) + off = (tgt : Int)) (kt : x ≤ 0 → G κ f ls tgt st) (kf : ¬ x ≤ 0 → G κ f ls (pc + 3) st) : G κ f ls pc (.int x :: st) := by
  obtain ⟨p, e, s, m, args, below, meth, c, Q, A, rfl, hx, hb, hml, hnm, hown, hts, hA, hK⟩ := X
  intro H locs arr hP hI hAl hS hl
  exact lv_if_le hx hb d ht (fun h => kt h H locs arr hP hI hAl hS hl) (fun h => kf h H locs arr hP hI hAl hS hl)
theorem zr_icmp_le (X : zX l D cy own cc nL R nm G) {x y : Int32} {off : Int} {tgt : Nat} (d : decode cc pc = .ok (.if_icmp .le off, 3)) (ht : (pc : Int) + off = (tgt : Int)) (kt : x ≤ y → G κ f ls tgt st) (kf : ¬ x ≤ y → G κ f ls (pc + 3) st) : G κ f ls pc (.int y :: .int x :: st) := by
  obtain ⟨p, e, s, m, args, below, meth, c, Q, A, rfl, hx, hb, hml, hnm, hown, hts, hA, hK⟩ := X
  intro H locs arr hP hI hAl hS hl
  exact lv_icmp_le hx hb d ht (fun h => kt h H locs arr hP hI hAl hS hl) (fun h => kf h H locs arr hP hI hAl hS hl)
theorem zr_lookup (X : zX l D cy own cc nL R nm G) {dflt : Int} {ps : Array (Int × Int)} {len : Nat} {x : Int32} {off : Int} {tgt : Nat} (d : decode cc pc = .ok (.lookupswitch dflt ps, len)) (hp : (ps.toList.zip (ps.toList.drop 1)).all (fun (a, next) => a.1 < next.1) = true) (ho : Op.lookupswitch.offset ps.toList dflt x.toInt = off) (ht : (pc : Int) + off = (tgt : Int)) (k : G κ f ls tgt st) : G κ f ls pc (.int x :: st) := by
  obtain ⟨p, e, s, m, args, below, meth, c, Q, A, rfl, hx, hb, hml, hnm, hown, hts, hA, hK⟩ := X
  intro H locs arr hP hI hAl hS hl
  exact lv_lookup hx hb d hp ho ht (k H locs arr hP hI hAl hS hl)
theorem zr_tableOut (X : zX l D cy own cc nL R nm G) {dflt lo hi : Int} {offs : Array Int} {len : Nat} {x : Int32} {tgt : Nat} (d : decode cc pc = .ok (.tableswitch dflt lo hi offs, len)) (h : x.toInt < lo ∨ hi < x.toInt) (ht : (pc : Int) + dflt = (tgt : Int)) (k : G κ f ls tgt st) : G κ f ls pc (.int x :: st) := by
  obtain ⟨p, e, s, m, args, below, meth, c, Q, A, rfl, hx, hb, hml, hnm, hown, hts, hA, hK⟩ := X
  intro H locs arr hP hI hAl hS hl
  exact lv_tableOut hx hb d h ht (k H locs arr hP hI hAl hS hl)
theorem zr_tableIn (X : zX l D cy own cc nL R nm G) {dflt lo hi : Int} {offs : Array Int} {len : Nat} {x : Int32} {off : Int} {tgt : Nat} (d : decode cc pc = .ok (.tableswitch dflt lo hi offs, len)) (h1 : ¬ x.toInt < lo) (h2 : ¬ hi < x.toInt) (ho : offs[(x.toInt - lo).toNat]? = some off) (ht : (pc : Int) + off = (tgt : Int)) (k : G κ f ls tgt st) : G κ f ls pc (.int x :: st) := by
  obtain ⟨p, e, s, m, args, below, meth, c, Q, A, rfl, hx, hb, hml, hnm, hown, hts, hA, hK⟩ := X
  intro H locs arr hP hI hAl hS hl
  exact lv_tableIn hx hb d h1 h2 ho ht (k H locs arr hP hI hAl hS hl)
theorem zr_ldc (X : zX l D cy own cc nL R nm G) {index : Nat} {v : Int32} (hc : Cond.constant own index v ∈ zTb) (d : decode cc pc = .ok (.ldc index, 2)) (k : G κ f ls (pc + 2) (.int v :: st)) : G κ f ls pc (st) := by
  obtain ⟨p, e, s, m, args, below, meth, c, Q, A, rfl, hx, hb, hml, hnm, hown, hts, hA, hK⟩ := X
  intro H locs arr hP hI hAl hS hl
  exact lv_ldc hx hb hown (hts _ hc) d (k H locs arr hP hI hAl hS hl)
theorem zr_ldcf (X : zX l D cy own cc nL R nm G) {index : Nat} {v : UInt32} (hc : Cond.constantFloat own index v ∈ zTb) (d : decode cc pc = .ok (.ldc index, 2)) (k : G κ f ls (pc + 2) (.float v :: st)) : G κ f ls pc (st) := by
  obtain ⟨p, e, s, m, args, below, meth, c, Q, A, rfl, hx, hb, hml, hnm, hown, hts, hA, hK⟩ := X
  intro H locs arr hP hI hAl hS hl
  exact lv_ldcf hx hb hown (hts _ hc) d (k H locs arr hP hI hAl hS hl)
theorem zr_get (X : zX l D cy own cc nL R nm G) {index ci i : Nat} (F : zFd own index ci i) (t : Nat) (ht : t < κ.1.1) {fs : List Value} (hf : f t = .inr (ci, fs)) {v : Value} (hv : fs[i]? = some v) (d : decode cc pc = .ok (.getfield index, 3)) (k : G κ f ls (pc + 3) (v :: st)) : G κ f ls pc (.ref (κ.1.2 t) :: st) := by
  obtain ⟨p, e, s, m, args, below, meth, c, Q, A, rfl, hx, hb, hml, hnm, hown, hts, hA, hK⟩ := X
  intro H locs arr hP hI hAl hS hl
  obtain ⟨C, T, N, ref, h1, h2, h3, h4, h5⟩ := F
  subst h5
  exact va_get (D := D) hx hb (fun w h => hts w h) h2 hown hK.1 hP t ((zl_get ht).trans (by rw [hf])) h1 i h3 (hts _ h4) (fun _ h9 => h9) hv d (k H locs arr hP hI hAl hS hl)
theorem zr_getN (X : zX l D cy own cc nL R nm G) {index ci i : Nat} (F : zFn own index ci i) (t : Nat) (ht : t < κ.1.1) {fs : List Value} (hf : f t = .inr (ci, fs)) {v : Value} (hv : fs[i]? = some v) (d : decode cc pc = .ok (.getfield index, 3)) (k : G κ f ls (pc + 3) (v :: st)) : G κ f ls pc (.ref (κ.1.2 t) :: st) := by
  obtain ⟨p, e, s, m, args, below, meth, c, Q, A, rfl, hx, hb, hml, hnm, hown, hts, hA, hK⟩ := X
  intro H locs arr hP hI hAl hS hl
  obtain ⟨C, T, N, ref, host, h1, h2, h3, h4, h5⟩ := F
  subst h5
  exact va_getN (D := D) hx hb (fun w h => hts w h) h2 hown hK.1 hP t ((zl_get ht).trans (by rw [hf])) h1 i h3 (va_Nw.use rfl (hK.2.1 _ h4)) (fun _ h9 => h9) hv d (k H locs arr hP hI hAl hS hl)
theorem zr_put (X : zX l D cy own cc nL R nm G) {index ci i : Nat} {ty : FieldType} {o9 : String} (F : zFd own index ci i) (F2 : zTy ci i false o9 ty) (t : Nat) (ht : t < κ.1.1) {fs fs' : List Value} (hf : f t = .inr (ci, fs)) {v : Value} (hn : narrow ty v = v) (hfit : fits ty v = true) (hl9 : i < fs.length) (hv : fs.set i v = fs') (d : decode cc pc = .ok (.putfield index, 3)) (k : G κ (va_up f t (.inr (ci, fs'))) ls (pc + 3) st) : G κ f ls pc (v :: .ref (κ.1.2 t) :: st) := by
  obtain ⟨p, e, s, m, args, below, meth, c, Q, A, rfl, hx, hb, hml, hnm, hown, hts, hA, hK⟩ := X
  intro H locs arr hP hI hAl hS hl
  obtain ⟨C, T, N, ref, h1, h2, h3, h4, h5⟩ := F
  obtain ⟨C', T', N', ty0, g1, g2, g3, g4, -, g5⟩ := F2
  cases h1.symm.trans g1
  subst h5
  subst hv
  exact va_put (D := D) hx hb (fun w h => hts w h) h2 ty0 g2 g3 hown hK.1 hP (zD_of hI hAl) hS t ((zl_get ht).trans (by rw [hf])) h1 i h3 (hts _ h4) (fun _ h9 => h9) g4 g5 hn hfit hl9 d (fun H1 locs1 hP1 _ hS1 => k H1 locs1 arr (by rw [zl_set ht] at hP1; exact hP1) hI hAl hS1 hl)
theorem zr_putN (X : zX l D cy own cc nL R nm G) {index ci i : Nat} {ty : FieldType} {o9 : String} (F : zFn own index ci i) (F2 : zTy ci i false o9 ty) (t : Nat) (ht : t < κ.1.1) {fs fs' : List Value} (hf : f t = .inr (ci, fs)) {v : Value} (hn : narrow ty v = v) (hfit : fits ty v = true) (hl9 : i < fs.length) (hv : fs.set i v = fs') (d : decode cc pc = .ok (.putfield index, 3)) (k : G κ (va_up f t (.inr (ci, fs'))) ls (pc + 3) st) : G κ f ls pc (v :: .ref (κ.1.2 t) :: st) := by
  obtain ⟨p, e, s, m, args, below, meth, c, Q, A, rfl, hx, hb, hml, hnm, hown, hts, hA, hK⟩ := X
  intro H locs arr hP hI hAl hS hl
  obtain ⟨C, T, N, ref, host, h1, h2, h3, h4, h5⟩ := F
  obtain ⟨C', T', N', ty0, g1, g2, g3, g4, -, g5⟩ := F2
  cases h1.symm.trans g1
  subst h5
  subst hv
  exact va_putN (D := D) hx hb (fun w h => hts w h) h2 ty0 g2 g3 hown hK.1 hP (zD_of hI hAl) hS t ((zl_get ht).trans (by rw [hf])) h1 i h3 (va_Nw.use rfl (hK.2.1 _ h4)) (fun _ h9 => h9) g4 g5 hn hfit hl9 d (fun H1 locs1 hP1 _ hS1 => k H1 locs1 arr (by rw [zl_set ht] at hP1; exact hP1) hI hAl hS1 hl)
theorem zr_putF (X : zX l D cy own cc nL R nm G) {index ci i : Nat} {ty : FieldType} (F : zFd own index ci i) (F2 : zTy ci i true own ty) (hinit : nm = "<init>") (t : Nat) (ht : t < κ.1.1) {fs fs' : List Value} (hf : f t = .inr (ci, fs)) {v : Value} (hn : narrow ty v = v) (hfit : fits ty v = true) (hl9 : i < fs.length) (hv : fs.set i v = fs') (d : decode cc pc = .ok (.putfield index, 3)) (k : G κ (va_up f t (.inr (ci, fs'))) ls (pc + 3) st) : G κ f ls pc (v :: .ref (κ.1.2 t) :: st) := by
  obtain ⟨p, e, s, m, args, below, meth, c, Q, A, rfl, hx, hb, hml, hnm, hown, hts, hA, hK⟩ := X
  intro H locs arr hP hI hAl hS hl
  obtain ⟨C, T, N, ref, h1, h2, h3, h4, h5⟩ := F
  obtain ⟨C', T', N', ty0, g1, g2, g3, g4, g6, g5⟩ := F2
  cases h1.symm.trans g1
  subst h5
  subst hv
  exact va_putF (D := D) hx hb (fun w h => hts w h) h2 ty0 g2 g3 hown hK.1 hP (zD_of hI hAl) hS t ((zl_get ht).trans (by rw [hf])) h1 i h3 (hts _ h4) (fun _ h9 => h9) g4 (hnm.trans hinit) (g6 rfl) g5 hn hfit hl9 d (fun H1 locs1 hP1 _ hS1 => k H1 locs1 arr (by rw [zl_set ht] at hP1; exact hP1) hI hAl hS1 hl)
theorem zr_iald (X : zX l D cy own cc nL R nm G) (t : Nat) (ht : t < κ.1.1) {n : Nat} {a : Nat → Int32} (hf : f t = .inl (cy 0, n, .inl a)) {i : Int32} (j : Nat) (hi : i = nI j) (hj : j < n) (hn : n < 2147483648) (d : decode cc pc = .ok (.iaload, 1)) (k : G κ f ls (pc + 1) (.int (a j) :: st)) : G κ f ls pc (.int i :: .ref (κ.1.2 t) :: st) := by
  obtain ⟨p, e, s, m, args, below, meth, c, Q, A, rfl, hx, hb, hml, hnm, hown, hts, hA, hK⟩ := X
  intro H locs arr hP hI hAl hS hl
  subst hi
  refine va_iald (D := D) hx hb hK.1 hP t 0 ((zl_get ht).trans (by rw [hf])) rfl (vp_in_nI hj hn) d ?_
  rw [nI_clamp (by omega)]
  exact k H locs arr hP hI hAl hS hl
theorem zr_cald (X : zX l D cy own cc nL R nm G) (t : Nat) (ht : t < κ.1.1) {n : Nat} {a : Nat → Int32} (hf : f t = .inl (cy 1, n, .inl a)) {i : Int32} (j : Nat) (hi : i = nI j) (hj : j < n) (hn : n < 2147483648) (d : decode cc pc = .ok (.caload, 1)) (k : G κ f ls (pc + 1) (.int (a j) :: st)) : G κ f ls pc (.int i :: .ref (κ.1.2 t) :: st) := by
  obtain ⟨p, e, s, m, args, below, meth, c, Q, A, rfl, hx, hb, hml, hnm, hown, hts, hA, hK⟩ := X
  intro H locs arr hP hI hAl hS hl
  subst hi
  refine va_cald (D := D) hx hb hK.1 hP t 1 ((zl_get ht).trans (by rw [hf])) rfl (vp_in_nI hj hn) d ?_
  rw [nI_clamp (by omega)]
  exact k H locs arr hP hI hAl hS hl
theorem zr_iast (X : zX l D cy own cc nL R nm G) (t : Nat) (ht : t < κ.1.1) {n : Nat} {a : Nat → Int32} (hf : f t = .inl (cy 0, n, .inl a)) {i x : Int32} (j : Nat) (hi : i = nI j) (hj : j < n) (hn : n < 2147483648) (d : decode cc pc = .ok (.iastore, 1)) (k : G κ (va_up f t (.inl (cy 0, n, .inl (upd a j x)))) ls (pc + 1) st) : G κ f ls pc (.int x :: .int i :: .ref (κ.1.2 t) :: st) := by
  obtain ⟨p, e, s, m, args, below, meth, c, Q, A, rfl, hx, hb, hml, hnm, hown, hts, hA, hK⟩ := X
  intro H locs arr hP hI hAl hS hl
  subst hi
  refine va_iast (D := D) hx hb hK.1 hP (zD_of hI hAl) hS t 0 ((zl_get ht).trans (by rw [hf])) rfl (vp_in_nI hj hn) d (fun H1 locs1 hP1 _ hS1 => ?_)
  rw [nI_clamp (by omega), zl_set ht] at hP1
  exact k H1 locs1 arr hP1 hI hAl hS1 hl
theorem zr_cast (X : zX l D cy own cc nL R nm G) (t : Nat) (ht : t < κ.1.1) {n : Nat} {a : Nat → Int32} (hf : f t = .inl (cy 1, n, .inl a)) {i x : Int32} (j : Nat) (hi : i = nI j) (hj : j < n) (hn : n < 2147483648) (d : decode cc pc = .ok (.castore, 1)) (k : G κ (va_up f t (.inl (cy 1, n, .inl (upd a j (vp_nar .char x))))) ls (pc + 1) st) : G κ f ls pc (.int x :: .int i :: .ref (κ.1.2 t) :: st) := by
  obtain ⟨p, e, s, m, args, below, meth, c, Q, A, rfl, hx, hb, hml, hnm, hown, hts, hA, hK⟩ := X
  intro H locs arr hP hI hAl hS hl
  subst hi
  refine va_cast (D := D) hx hb hK.1 hP (zD_of hI hAl) hS t 1 ((zl_get ht).trans (by rw [hf])) rfl (vp_in_nI hj hn) d (fun H1 locs1 hP1 _ hS1 => ?_)
  rw [nI_clamp (by omega), zl_set ht] at hP1
  exact k H1 locs1 arr hP1 hI hAl hS1 hl
theorem zr_aald (X : zX l D cy own cc nL R nm G) (t : Nat) (ht : t < κ.1.1) {b n : Nat} {C : String} (hb9 : (zT cy)[b]? = some (cy b, .object C)) {a : Nat → Option Nat} (hf : f t = .inl (cy b, n, .inr (.inr (.inr (.inr a))))) {i : Int32} (j : Nat) (hi : i = nI j) (hj : j < n) (hn : n < 2147483648) {v : Nat} (hv : a j = some v) (d : decode cc pc = .ok (.aaload, 1)) (k : G κ f ls (pc + 1) (.ref v :: st)) : G κ f ls pc (.int i :: .ref (κ.1.2 t) :: st) := by
  obtain ⟨p, e, s, m, args, below, meth, c, Q, A, rfl, hx, hb, hml, hnm, hown, hts, hA, hK⟩ := X
  intro H locs arr hP hI hAl hS hl
  subst hi
  refine va_aldq (D := D) hx hb hK.1 hP t b ((zl_get ht).trans (by rw [hf])) hb9 (vp_in_nI hj hn) d ?_
  rw [nI_clamp (by omega), hv]
  exact k H locs arr hP hI hAl hS hl
theorem zr_aast (X : zX l D cy own cc nL R nm G) (t : Nat) (ht : t < κ.1.1) {b n ci : Nat} {r : vw_C} (hb9 : (zT cy)[b]? = some (cy b, .object r.1)) (hc9 : vwCl[ci]? = some r) {a : Nat → Option Nat} (hf : f t = .inl (cy b, n, .inr (.inr (.inr (.inr a))))) {i : Int32} (j : Nat) (hi : i = nI j) (hj : j < n) (hn : n < 2147483648) (u : Nat) (hu : u < κ.1.1) {vs : List Value} (hv : f u = .inr (ci, vs)) (d : decode cc pc = .ok (.aastore, 1)) (k : G κ (va_up f t (.inl (cy b, n, .inr (.inr (.inr (.inr (va_up a j (some (κ.1.2 u)))))))) ) ls (pc + 1) st) : G κ f ls pc (.ref (κ.1.2 u) :: .int i :: .ref (κ.1.2 t) :: st) := by
  obtain ⟨p, e, s, m, args, below, meth, c, Q, A, rfl, hx, hb, hml, hnm, hown, hts, hA, hK⟩ := X
  intro H locs arr hP hI hAl hS hl
  subst hi
  refine va_astq (D := D) hx hb hK.1 hP (zD_of hI hAl) hS t b u ci ((zl_get ht).trans (by rw [hf])) hb9 ((zl_get hu).trans (by rw [hv])) hc9 (vp_in_nI hj hn) d (fun H1 locs1 hP1 _ hS1 => ?_)
  rw [nI_clamp (by omega), zl_set ht] at hP1
  exact k H1 locs1 arr hP1 hI hAl hS1 hl
theorem zr_alen (X : zX l D cy own cc nL R nm G) (t : Nat) (ht : t < κ.1.1) {b : Nat} {ty : FieldType} (hb9 : (zT cy)[b]? = some (cy b, ty)) {a : vp_A} (hf : f t = .inl (cy b, a)) {v : Int32} (hv : Int32.ofNat a.1 = v) (d : decode cc pc = .ok (.arraylength, 1)) (k : G κ f ls (pc + 1) (.int v :: st)) : G κ f ls pc (.ref (κ.1.2 t) :: st) := by
  obtain ⟨p, e, s, m, args, below, meth, c, Q, A, rfl, hx, hb, hml, hnm, hown, hts, hA, hK⟩ := X
  intro H locs arr hP hI hAl hS hl
  exact va_alen (D := D) hx hb hK.1 hP t b ((zl_get ht).trans (by rw [hf])) hb9 hv d (k H locs arr hP hI hAl hS hl)
theorem zr_min (X : zX l D cy own cc nL R nm G) {index : Nat} {x y : Int32} (hlink : Cond.methodLink own index Lib.Math.min.name ∈ zTb) (hfr : 1 ≤ R.frames) (hlo : (st.map fun v => v.category).sum + 13 ≤ R.locals) (hc : κ.2.1 ≤ R.cells) (hs : κ.2.2 ≤ R.slots) (d : decode cc pc = .ok (.invokestatic index, 3)) (k : G κ f ls (pc + 3) (.int (if y < x then y else x) :: st)) : G κ f ls pc (.int y :: .int x :: st) := by
  obtain ⟨p, e, s, m, args, below, meth, c, Q, A, rfl, hx, hb, hml, hnm, hown, hts, hA, hK⟩ := X
  intro H locs arr hP hI hAl hS hl
  exact va_mmin hx hb (by rw [hml]; exact hl.1.symm) hown (hts _ hlink) (hts _ zw_min_static) (hts _ zw_min_init) (hts _ zw_min_code) hfr hlo hc hs d (k H locs arr hP hI hAl hS hl)
theorem zr_loc (X : zX l D cy own cc nL R nm G) (is : List Nat) (h : lv_pick ls is = ls') (k : G κ f ls' pc st) : G κ f ls pc st := by
  obtain ⟨p, e, s, m, args, below, meth, c, Q, A, rfl, hx, hb, hml, hnm, hown, hts, hA, hK⟩ := X
  intro H locs arr hP hI hAl hS hl
  exact k H locs arr hP hI hAl hS (lv_sub hl is h)
theorem zr_objInit (X : zX l D cy own cc nL R nm G) {index : Nat} {x : Nat} (hlink : Cond.methodLink own index objectInit ∈ zTb) (hfr : 1 ≤ R.frames) (hlo : (st.map fun v => v.category).sum + 12 ≤ R.locals) (d : decode cc pc = .ok (.invokespecial index, 3)) (k : G κ f ls (pc + 3) st) : G κ f ls pc (.ref x :: st) := by
  obtain ⟨p, e, s, m, args, below, meth, c, Q, A, rfl, hx, hb, hml, hnm, hown, hts, hA, hK⟩ := X
  intro H locs arr hP hI hAl hS hl
  refine W.objInit hx hb hown (hts _ hlink) (hts _ zw_obj_inst) (hts _ zw_obj_code) rfl (by rw [hml]; exact hl.1) rfl d hfr (by show 2 * 0 + _ + 12 ≤ _; omega) ?_
  exact k H locs arr hP hI hAl hS hl
theorem zr_new (X : zX l D cy own cc nL R nm G) {index ci N : Nat} {C : String} {T : u_T} {ty0 : Nat → FieldType} {fs : List Value} (hc : vwCl[ci]? = some (C, T, N)) (h2 : ∀ w ∈ u_ws C T N, w ∈ zTb) (hty : ∀ k, k < N → parseFieldDescriptor (T k).2.2.1 = some (ty0 k)) (hcl : Cond.classLink own index C ∈ zTb) (hinst : Cond.instantiable C N ∈ zTb) (hini : Cond.initialized C ∈ zTb) (hfs : ∀ j, j < N → defaultValue (ty0 j) = vp_V fs j) (hcells : κ.2.1 + 1 ≤ R.cells) (hslots : κ.2.2 + N ≤ R.slots) (d : decode cc pc = .ok (.new index, 3)) (k : ∀ w' : zW, w'.1 = κ.1.1 + 1 → (∀ i, i < κ.1.1 → w'.2 i = κ.1.2 i) → G (w', κ.2.1 + 1, κ.2.2 + N) (va_up f κ.1.1 (.inr (ci, fs))) ls (pc + 3) (.ref (w'.2 κ.1.1) :: st)) : G κ f ls pc (st) := by
  obtain ⟨p, e, s, m, args, below, meth, c, Q, A, rfl, hx, hb, hml, hnm, hown, hts, hA, hK⟩ := X
  intro H locs arr hP hI hAl hS hl
  refine W.newcK hx hb hown (hts _ hcl) (hts _ hinst) (hts _ hini) rfl d hcells hslots (hK.1.1 ci _ hc).2.1 rfl fun H1 kC hkC e1 z1 o1 => ?_
  have hPN : va_P D vwCl (zl (zpush κ.1 H.size) (va_up f κ.1.1 (.inr (ci, fs)))) H1 := by
    rw [← zl_push]
    refine (hP.kept (fun k x hx => o1 x.1 ((hP k x hx).lt))).app (fun k x hx => ?_)
    have hz : k < 1 := (List.getElem?_eq_some_iff.mp hx).1
    rw [show k = 0 by omega] at hx
    cases hx
    exact ⟨_, hc, (u_born ty0 (fun w h => hts w h) h2 (hK.1.1 ci _ hc) hkC e1 hty).to hfs⟩
  have h9 := k (zpush κ.1 H.size) rfl (fun i hi => va_up_ne _ _ (by omega)) H1 locs arr hPN (zIn_push hI hP rfl) (zAll_push hAl (hA _ hS.1)) ⟨Nat.le_trans hS.1 (by omega), fun x h1 h2 => (o1 x (Nat.lt_of_lt_of_le h1 hS.1)).trans (hS.2.1 x h1 h2), hS.2.2⟩ hl
  have e9 : (zpush κ.1 H.size).2 κ.1.1 = H.size := va_up_self _ _ _
  rw [e9] at h9
  exact h9
theorem zr_newa (X : zX l D cy own cc nL R nm G) {atype : ArrayType} {b N' : Nat} {ty : FieldType} (hw : Cond.arrayClass (newarray.typeOf atype) ∈ zTb) (hty : newarray.typeOf atype = ty) (hb9 : (zT cy)[b]? = some (cy b, ty)) (hty2 : ∀ U cA, va_RA U cA ty → U.vm.findClass ("[" ++ ty.toString) = some cA) {a0 : vp_A} (ha : ∀ cA : ClassId, vp_cell cA a0 = arrV cA N' (fun _ => defaultValue ty)) {n : Int32} (hn : ¬ n < 0) (hN : n.toNatClampNeg = N') (hby : N' * componentBytes ty ≤ 536870912) (hcells : κ.2.1 + 1 ≤ R.cells) (hslots : κ.2.2 + N' ≤ R.slots) (d : decode cc pc = .ok (.newarray atype, 2)) (k : ∀ w' : zW, w'.1 = κ.1.1 + 1 → (∀ i, i < κ.1.1 → w'.2 i = κ.1.2 i) → G (w', κ.2.1 + 1, κ.2.2 + N') (va_up f κ.1.1 (.inl (cy b, a0))) ls (pc + 2) (.ref (w'.2 κ.1.1) :: st)) : G κ f ls pc (.int n :: st) := by
  obtain ⟨p, e, s, m, args, below, meth, c, Q, A, rfl, hx, hb, hml, hnm, hown, hts, hA, hK⟩ := X
  intro H locs arr hP hI hAl hS hl
  subst hty
  refine va_newaK hx hb (hts _ hw) rfl d rfl hn hN hby hcells hslots rfl fun H1 cA e1 z1 o1 hAr hNm => ?_
  have hcA : cA = cy b := Option.some.inj (hNm.symm.trans (hty2 s _ (hK.1.2 b _ hb9).2))
  subst hcA
  have hPN : va_P D vwCl (zl (zpush κ.1 H.size) (va_up f κ.1.1 (.inl (cy b, a0)))) H1 := by
    rw [← zl_push]
    refine (hP.kept (fun k x hx => o1 x.1 ((hP k x hx).lt))).app (fun k x hx => ?_)
    have hz : k < 1 := (List.getElem?_eq_some_iff.mp hx).1
    rw [show k = 0 by omega] at hx
    cases hx
    show H1[H.size]? = some (vp_cell _ _)
    rw [ha]
    exact e1
  have h9 := k (zpush κ.1 H.size) rfl (fun i hi => va_up_ne _ _ (by omega)) H1 locs arr hPN (zIn_push hI hP rfl) (zAll_push hAl (hA _ hS.1)) ⟨Nat.le_trans hS.1 (by omega), fun x h1 h2 => (o1 x (Nat.lt_of_lt_of_le h1 hS.1)).trans (hS.2.1 x h1 h2), hS.2.2⟩ hl
  have e9 : (zpush κ.1 H.size).2 κ.1.1 = H.size := va_up_self _ _ _
  rw [e9] at h9
  exact h9
theorem zr_newq (X : zX l D cy own cc nL R nm G) {index b N' : Nat} {C : String} (hcl : Cond.classLink own index C ∈ zTb) (hao : ∀ U : State, zK D cy (fun _ => True) U ∨ True) (hover : C = RX4 ∨ C = RX0 ∨ C = RX2) (hb9 : (zT cy)[b]? = some (cy b, .object C)) {n : Int32} (hn : ¬ n < 0) (hN : n.toNatClampNeg = N') (hby : N' * 4 ≤ 536870912) (hcells : κ.2.1 + 1 ≤ R.cells) (hslots : κ.2.2 + N' ≤ R.slots) (d : decode cc pc = .ok (.anewarray index, 3)) (k : ∀ w' : zW, w'.1 = κ.1.1 + 1 → (∀ i, i < κ.1.1 → w'.2 i = κ.1.2 i) → G (w', κ.2.1 + 1, κ.2.2 + N') (va_up f κ.1.1 (.inl (cy b, N', .inr (.inr (.inr (.inr (fun _ => none))))))) ls (pc + 3) (.ref (w'.2 κ.1.1) :: st)) : G κ f ls pc (.int n :: st) := by
  obtain ⟨p, e, s, m, args, below, meth, c, Q, A, rfl, hx, hb, hml, hnm, hown, hts, hA, hK⟩ := X
  intro H locs arr hP hI hAl hS hl
  subst hN
  have hov : va_AO C s := by
    rcases hover with rfl | rfl | rfl
    · exact hK.2.2.2.1
    · exact hK.2.2.2.2.1
    · exact hK.2.2.2.2.2
  refine W.anew hx hb hown (hts _ hcl) (va_AO.use hov) rfl d rfl hn hby hcells hslots fun cA kA comp f1 f2 f3 f4 => ?_
  obtain ⟨kA', comp', g1, g2, g3, g4⟩ := (hK.1.2 b _ hb9).2
  have hcA : cA = cy b := Option.some.inj (f1.symm.trans g4)
  subst hcA
  generalize hH1 : H.push ({ cls := cy b, slots := Array.replicate n.toNatClampNeg .null, vm := .none } : Cell) = H1
  have z1 : H1.size = H.size + 1 := by rw [← hH1, Array.size_push]
  have e1 : H1[H.size]? = some (arrV (cy b) n.toNatClampNeg (fun _ => .null)) := by rw [← hH1, Array.getElem?_push_size, ← arrV_new]
  have o1 : ∀ q : Nat, q < H.size → H1[q]? = H[q]? := fun q hq => by rw [← hH1, Array.getElem?_push, if_neg (Nat.ne_of_lt hq)]
  have hPN : va_P D vwCl (zl (zpush κ.1 H.size) (va_up f κ.1.1 (.inl (cy b, n.toNatClampNeg, .inr (.inr (.inr (.inr (fun _ => none)))))))) H1 := by
    rw [← zl_push]
    refine (hP.kept (fun k x hx => o1 x.1 ((hP k x hx).lt))).app (fun k x hx => ?_)
    have hz : k < 1 := (List.getElem?_eq_some_iff.mp hx).1
    rw [show k = 0 by omega] at hx
    cases hx
    show H1[H.size]? = some (vp_cell _ _)
    rw [vp_cell_q]
    exact e1
  have h9 := k (zpush κ.1 H.size) rfl (fun i hi => va_up_ne _ _ (by omega)) H1 locs arr hPN (zIn_push hI hP rfl) (zAll_push hAl (hA _ hS.1)) ⟨Nat.le_trans hS.1 (by omega), fun x h1 h2 => (o1 x (Nat.lt_of_lt_of_le h1 hS.1)).trans (hS.2.1 x h1 h2), hS.2.2⟩ hl
  have e9 : (zpush κ.1 H.size).2 κ.1.1 = H.size := va_up_self _ _ _
  rw [e9] at h9
  exact h9
/-- a call of an instance method -/
theorem zr_callV (X : zX l D cy own cc nL R nm G) {y : MethodName} {yc : ByteArray} {yL n index : Nat} {ret : Option FieldType} {Rc : Room} {post : Option Value → zW → zF → Prop} {As rest : List Value} {C : String} {ci : Nat} {q9 : vw_C} {fs : List Value} (t : Nat) (ht : t < κ.1.1) (hf : f t = .inr (ci, fs)) (hci : vwCl[ci]? = some q9) (hC : q9.1 = C) (hM : zM l D cy y yc yL ret Rc (.ref (κ.1.2 t) :: As) κ.1 f post) (hd : y.cls = C ∧ y.cls ≠ "java/lang/invoke/MethodHandle" ∧ y.cls ≠ "java/lang/invoke/VarHandle" ∧ (parseMethodDescriptor y.desc).map (fun d => d.parameters.length) = some n) (hcode : Cond.code y yc yL ret ∈ zTb) (hini : Cond.initialized y.cls ∈ zTb) (hr : zRm Rc R yL κ) (hn : As.length = n) (hW : (rest.map fun v => v.category).sum ≤ 8) (hlink : Cond.methodLink own index y ∈ zTb) (hin : Cond.instanceMethod y ∈ zTb) (hsel : Cond.selects C y y ∈ zTb) (hst : st = As.reverse ++ .ref (κ.1.2 t) :: rest) (d : decode cc pc = .ok (.invokevirtual index, 3)) (k : ∀ (r : Option Value) (w' : zW) (f' : zF), post r w' f' → G (w', κ.2.1 + Rc.cells, κ.2.2 + Rc.slots) f' ls (pc + 3) (r.toList ++ rest)) : G κ f ls pc st := by
  obtain ⟨p, e, s, m, args, below, meth, c, Q, A, rfl, hx, hb, hml, hnm, hown, hts, hA, hK⟩ := X
  intro H locs arr hP hI hAl hS hl
  subst hC
  have hT : GoodIn zTb (wsV own index q9.1 y (zWs y yc yL ret)) := zGood (c0 := .initialized y.cls) (fun x hx => by
    rcases List.mem_append.mp hx with hx | hx
    · simp only [List.mem_cons, List.not_mem_nil, or_false] at hx
      rcases hx with rfl | rfl | rfl | rfl
      · exact hlink
      · exact hin
      · exact hsel
      · exact hd.1 ▸ hini
    · exact zWs_in hcode x hx)
  refine zCall (va_runV (As := As) (rest := rest) (mc := Rc.cells) (ms := Rc.slots) ⟨hx, hb, hml, hown, hts⟩ (hM H.size) (cwV n hts hT rfl rfl rfl hd ⟨hr.1, hr.2.1⟩) ⟨zBlind, va_recv hK.1 hP hci ((zl_get ht).trans (by rw [hf])), fun U hU hW9 => ⟨rfl, zPre_of hP hI hAl hS hA hK hU hW9⟩⟩ rfl hn hl.1 hst (by show 2 * 0 + _ ≤ 8; omega) d hr.2.2) hS (zSub hAl hS hA) (zSub hAl hS hA) (fun r w' f' H1 locs1 hp hP1 hI1 hAl1 _ _ hS1 => k r w' f' hp H1 locs1 arr hP1 hI1 hAl1 hS1 hl)
/-- a call of a static method -/
theorem zr_callS (X : zX l D cy own cc nL R nm G) {y : MethodName} {yc : ByteArray} {yL n index : Nat} {ret : Option FieldType} {Rc : Room} {post : Option Value → zW → zF → Prop} {As rest : List Value} (hM : zM l D cy y yc yL ret Rc As κ.1 f post) (hd : y.cls ≠ "java/lang/invoke/MethodHandle" ∧ y.cls ≠ "java/lang/invoke/VarHandle" ∧ (parseMethodDescriptor y.desc).map (fun d => d.parameters.length) = some n) (hcode : Cond.code y yc yL ret ∈ zTb) (hini : Cond.initialized y.cls ∈ zTb) (hr : zRm Rc R yL κ) (hn : As.length = n) (hW : (rest.map fun v => v.category).sum ≤ 8) (hlink : Cond.methodLink own index y ∈ zTb) (hstat : Cond.static y ∈ zTb) (hst : st = As.reverse ++ rest) (d : decode cc pc = .ok (.invokestatic index, 3)) (k : ∀ (r : Option Value) (w' : zW) (f' : zF), post r w' f' → G (w', κ.2.1 + Rc.cells, κ.2.2 + Rc.slots) f' ls (pc + 3) (r.toList ++ rest)) : G κ f ls pc st := by
  obtain ⟨p, e, s, m, args, below, meth, c, Q, A, rfl, hx, hb, hml, hnm, hown, hts, hA, hK⟩ := X
  intro H locs arr hP hI hAl hS hl
  have hT : GoodIn zTb (va_wsS own index y (zWs y yc yL ret)) := zGood (c0 := .initialized y.cls) (fun x hx => by
    rcases List.mem_append.mp hx with hx | hx
    · simp only [List.mem_cons, List.not_mem_nil, or_false] at hx
      rcases hx with rfl | rfl | rfl
      · exact hlink
      · exact hstat
      · exact hini
    · exact zWs_in hcode x hx)
  refine zCall (va_runS (As := As) (rest := rest) (mc := Rc.cells) (ms := Rc.slots) ⟨hx, hb, hml, hown, hts⟩ (hM H.size) (va_cwS n hts hT rfl rfl rfl hd ⟨hr.1, hr.2.1⟩) ⟨zBlind, fun U hU hW9 => ⟨rfl, zPre_of hP hI hAl hS hA hK hU hW9⟩⟩ rfl hn hl.1 hst (by show 2 * 0 + _ ≤ 8; omega) d hr.2.2) hS (zSub hAl hS hA) (zSub hAl hS hA) (fun r w' f' H1 locs1 hp hP1 hI1 hAl1 _ _ hS1 => k r w' f' hp H1 locs1 arr hP1 hI1 hAl1 hS1 hl)
/-- a call of a nest mate's private static method -/
theorem zr_callSN (X : zX l D cy own cc nL R nm G) {y : MethodName} {yc : ByteArray} {yL n index : Nat} {ret : Option FieldType} {Rc : Room} {post : Option Value → zW → zF → Prop} {As rest : List Value} {host : String} (hM : zM l D cy y yc yL ret Rc As κ.1 f post) (hd : y.cls ≠ "java/lang/invoke/MethodHandle" ∧ y.cls ≠ "java/lang/invoke/VarHandle" ∧ (parseMethodDescriptor y.desc).map (fun d => d.parameters.length) = some n) (hcode : Cond.code y yc yL ret ∈ zTb) (hini : Cond.initialized y.cls ∈ zTb) (hr : zRm Rc R yL κ) (hn : As.length = n) (hW : (rest.map fun v => v.category).sum ≤ 8) (hlink : Cond.methodLinkNest own index y host ∈ zNests) (hstat : Cond.static y ∈ zTb) (hst : st = As.reverse ++ rest) (d : decode cc pc = .ok (.invokestatic index, 3)) (k : ∀ (r : Option Value) (w' : zW) (f' : zF), post r w' f' → G (w', κ.2.1 + Rc.cells, κ.2.2 + Rc.slots) f' ls (pc + 3) (r.toList ++ rest)) : G κ f ls pc st := by
  obtain ⟨p, e, s, m, args, below, meth, c, Q, A, rfl, hx, hb, hml, hnm, hown, hts, hA, hK⟩ := X
  intro H locs arr hP hI hAl hS hl
  have hT : GoodIn zTb (zWs y yc yL ret) := zGood (c0 := .initialized y.cls) (zWs_in hcode)
  refine zCall (va_runSN (As := As) (rest := rest) (mc := Rc.cells) (ms := Rc.slots) ⟨hx, hb, hml, hown, hts⟩ (hM H.size) ⟨va_cnB n hts hT rfl rfl rfl (hK.2.1 _ hlink) (hts _ hini) hd ⟨hr.1, hr.2.1⟩, hts _ hstat, trivial⟩ ⟨zBlind, fun U hU hW9 => ⟨rfl, zPre_of hP hI hAl hS hA hK hU hW9⟩⟩ rfl hn hl.1 hst (by show 2 * 0 + _ ≤ 8; omega) d hr.2.2) hS (zSub hAl hS hA) (zSub hAl hS hA) (fun r w' f' H1 locs1 hp hP1 hI1 hAl1 _ _ hS1 => k r w' f' hp H1 locs1 arr hP1 hI1 hAl1 hS1 hl)
/-- a call of a constructor -/
theorem zr_callI (X : zX l D cy own cc nL R nm G) {y : MethodName} {yc : ByteArray} {yL n index : Nat} {Rc : Room} {post : Option Value → zW → zF → Prop} {As rest : List Value} (t : Nat) (hM : zM l D cy y yc yL none Rc (.ref (κ.1.2 t) :: As) κ.1 f post) (hd : y.cls ≠ "java/lang/invoke/MethodHandle" ∧ y.cls ≠ "java/lang/invoke/VarHandle" ∧ (parseMethodDescriptor y.desc).map (fun d => d.parameters.length) = some n) (hcode : Cond.code y yc yL none ∈ zTb) (hini : Cond.initialized y.cls ∈ zTb) (hr : zRm Rc R yL κ) (hn : As.length = n) (hW : (rest.map fun v => v.category).sum ≤ 8) (hlink : Cond.methodLink own index y ∈ zTb) (hy : y.name = "<init>") (hin : Cond.instanceMethod y ∈ zTb) (hst : st = As.reverse ++ .ref (κ.1.2 t) :: rest) (d : decode cc pc = .ok (.invokespecial index, 3)) (k : ∀ (r : Option Value) (w' : zW) (f' : zF), post r w' f' → G (w', κ.2.1 + Rc.cells, κ.2.2 + Rc.slots) f' ls (pc + 3) (r.toList ++ rest)) : G κ f ls pc st := by
  obtain ⟨p, e, s, m, args, below, meth, c, Q, A, rfl, hx, hb, hml, hnm, hown, hts, hA, hK⟩ := X
  intro H locs arr hP hI hAl hS hl
  have hT : GoodIn zTb (zWs y yc yL none) := zGood (c0 := .initialized y.cls) (zWs_in hcode)
  refine zCall (va_runI (As := As) (rest := rest) (mc := Rc.cells) (ms := Rc.slots) ⟨hx, hb, hml, hown, hts⟩ (hM H.size) ⟨callB_of n hts hT rfl rfl rfl (hts _ hini) (hts _ hlink) hd ⟨hr.1, hr.2.1⟩, hy, hts _ hin⟩ ⟨zBlind, fun U hU hW9 => ⟨rfl, zPre_of hP hI hAl hS hA hK hU hW9⟩⟩ rfl hn hl.1 hst (by show 2 * 0 + _ ≤ 8; omega) d hr.2.2) hS (zSub hAl hS hA) (zSub hAl hS hA) (fun r w' f' H1 locs1 hp hP1 hI1 hAl1 _ _ hS1 => k r w' f' hp H1 locs1 arr hP1 hI1 hAl1 hS1 hl)
/-- a call of a nest mate's private constructor -/
theorem zr_callIN (X : zX l D cy own cc nL R nm G) {y : MethodName} {yc : ByteArray} {yL n index : Nat} {host : String} {Rc : Room} {post : Option Value → zW → zF → Prop} {As rest : List Value} (t : Nat) (hM : zM l D cy y yc yL none Rc (.ref (κ.1.2 t) :: As) κ.1 f post) (hd : y.cls ≠ "java/lang/invoke/MethodHandle" ∧ y.cls ≠ "java/lang/invoke/VarHandle" ∧ (parseMethodDescriptor y.desc).map (fun d => d.parameters.length) = some n) (hcode : Cond.code y yc yL none ∈ zTb) (hini : Cond.initialized y.cls ∈ zTb) (hr : zRm Rc R yL κ) (hn : As.length = n) (hW : (rest.map fun v => v.category).sum ≤ 8) (hlink : Cond.methodLinkNest own index y host ∈ zNests) (hy : y.name = "<init>") (hin : Cond.instanceMethod y ∈ zTb) (hst : st = As.reverse ++ .ref (κ.1.2 t) :: rest) (d : decode cc pc = .ok (.invokespecial index, 3)) (k : ∀ (r : Option Value) (w' : zW) (f' : zF), post r w' f' → G (w', κ.2.1 + Rc.cells, κ.2.2 + Rc.slots) f' ls (pc + 3) (r.toList ++ rest)) : G κ f ls pc st := by
  obtain ⟨p, e, s, m, args, below, meth, c, Q, A, rfl, hx, hb, hml, hnm, hown, hts, hA, hK⟩ := X
  intro H locs arr hP hI hAl hS hl
  have hT : GoodIn zTb (zWs y yc yL none) := zGood (c0 := .initialized y.cls) (zWs_in hcode)
  refine zCall (va_runIN (As := As) (rest := rest) (mc := Rc.cells) (ms := Rc.slots) ⟨hx, hb, hml, hown, hts⟩ (hM H.size) ⟨va_cnB n hts hT rfl rfl rfl (hK.2.1 _ hlink) (hts _ hini) hd ⟨hr.1, hr.2.1⟩, hy, hts _ hin⟩ ⟨zBlind, fun U hU hW9 => ⟨rfl, zPre_of hP hI hAl hS hA hK hU hW9⟩⟩ rfl hn hl.1 hst (by show 2 * 0 + _ ≤ 8; omega) d hr.2.2) hS (zSub hAl hS hA) (zSub hAl hS hA) (fun r w' f' H1 locs1 hp hP1 hI1 hAl1 _ _ hS1 => k r w' f' hp H1 locs1 arr hP1 hI1 hAl1 hS1 hl)
end ZR
end
section
def zCv (y : MethodName) (cc : ByteArray) (nL : Nat) (ret : Option FieldType) (C : String) (n : Nat) : Prop := Cond.code y cc nL ret ∈ zTb ∧ Cond.initialized y.cls ∈ zTb ∧ Cond.instanceMethod y ∈ zTb ∧ Cond.selects C y y ∈ zTb ∧ y.cls = C ∧ y.cls ≠ "java/lang/invoke/MethodHandle" ∧ y.cls ≠ "java/lang/invoke/VarHandle" ∧ (parseMethodDescriptor y.desc).map (fun d => d.parameters.length) = some n
def zCs (y : MethodName) (cc : ByteArray) (nL : Nat) (ret : Option FieldType) (n : Nat) : Prop := Cond.code y cc nL ret ∈ zTb ∧ Cond.initialized y.cls ∈ zTb ∧ Cond.static y ∈ zTb ∧ y.cls ≠ "java/lang/invoke/MethodHandle" ∧ y.cls ≠ "java/lang/invoke/VarHandle" ∧ (parseMethodDescriptor y.desc).map (fun d => d.parameters.length) = some n
def zCi (y : MethodName) (cc : ByteArray) (nL n : Nat) : Prop := Cond.code y cc nL none ∈ zTb ∧ Cond.initialized y.cls ∈ zTb ∧ Cond.instanceMethod y ∈ zTb ∧ y.name = "<init>" ∧ y.cls ≠ "java/lang/invoke/MethodHandle" ∧ y.cls ≠ "java/lang/invoke/VarHandle" ∧ (parseMethodDescriptor y.desc).map (fun d => d.parameters.length) = some n
/-- a contract with one answer and one world behind it; nothing is made -/
def zSd (l : Launch) (D : va_G) (cy : Nat → ClassId) (y : MethodName) (cc : ByteArray) (nL : Nat) (ret : Option FieldType) (fr lo : Nat) (av : List Value) (w : zW) (f : zF) (r : Option Value) (f' : zF) : Prop :=
  zM l D cy y cc nL ret { frames := fr, cells := 0, slots := 0, locals := lo } av w f (fun r0 w' g => w' = w ∧ r0 = r ∧ g = f')
/-- a contract with what is so behind it; nothing is made -/
def zSp (l : Launch) (D : va_G) (cy : Nat → ClassId) (y : MethodName) (cc : ByteArray) (nL : Nat) (ret : Option FieldType) (fr lo : Nat) (av : List Value) (w : zW) (f : zF) (post : Option Value → zF → Prop) : Prop :=
  zM l D cy y cc nL ret { frames := fr, cells := 0, slots := 0, locals := lo } av w f (fun r0 w' g => w' = w ∧ post r0 g)
def zEd (cc : ByteArray) (ret : Option FieldType) (w : zW) (r : Option Value) (f' : zF) (G : zJ) : Prop := zE cc ret w 0 0 (fun r0 w' g => w' = w ∧ r0 = r ∧ g = f') G
section ZS
variable {l : Launch} {D : va_G} {cy : Nat → ClassId} {own : String} {cc : ByteArray} {nL : Nat} {R : Room} {nm : String} {G : zJ} {κ : zκ} {f f' : zF} {ls ls' : List (Nat × Value)} {pc : Nat} {st st' : List Value}
variable {y : MethodName} {ret : Option FieldType} {fr lo : Nat} {av : List Value} {w : zW} {r : Option Value}
theorem zSd.intro (hy : plainName y.cls = true) (hn : (lg_sl av).length ≤ nL)
    (body : ∀ G : zJ, zX l D cy y.cls cc nL { frames := fr, cells := 0, slots := 0, locals := lo } y.name G → zE cc ret w 0 0 (fun r0 w' g => w' = w ∧ r0 = r ∧ g = f') G → G (w, 0, 0) f (lv_args 0 av) 0 []) : zSd l D cy y cc nL ret fr lo av w f r f' := zM.intro hy hn body
theorem zSp.intro {post : Option Value → zF → Prop} (hy : plainName y.cls = true) (hn : (lg_sl av).length ≤ nL)
    (body : ∀ G : zJ, zX l D cy y.cls cc nL { frames := fr, cells := 0, slots := 0, locals := lo } y.name G → zE cc ret w 0 0 (fun r0 w' g => w' = w ∧ post r0 g) G → G (w, 0, 0) f (lv_args 0 av) 0 []) : zSp l D cy y cc nL ret fr lo av w f post := zM.intro hy hn body
theorem zSd.sp {post : Option Value → zF → Prop} (h : zSd l D cy y cc nL ret fr lo av w f r f') (hp : post r f') : zSp l D cy y cc nL ret fr lo av w f post :=
  zM.post h (fun r0 w' g ⟨a, b, c⟩ => ⟨a, by rw [b, c]; exact hp⟩)
theorem zSd.eq {r2 : Option Value} {f2 : zF} (h : zSd l D cy y cc nL ret fr lo av w f r f') (h1 : r = r2) (h2 : f' = f2) : zSd l D cy y cc nL ret fr lo av w f r2 f2 := h1 ▸ h2 ▸ h
theorem zSd.eq0 {f2 : zF} (h : zSd l D cy y cc nL ret fr lo av w f r f') (h2 : f = f2) : zSd l D cy y cc nL ret fr lo av w f2 r f' := h2 ▸ h
theorem zret_i {v v' : Int32} (E : zE cc ret w 0 0 (fun r0 w' g => w' = w ∧ r0 = some (.int v') ∧ g = f') G) (hr : ret = some .int) (d : decode cc pc = .ok (.ireturn, 1)) (hv : v = v') (hf : f = f') : G (w, 0, 0) f ls pc [.int v] :=
  E.1 (w, 0, 0) f ls pc v (Or.inl hr) d (Nat.le_refl _) (Nat.le_refl _) ⟨Nat.le_refl _, fun _ _ => rfl⟩ ⟨rfl, by rw [hv], hf⟩
theorem zret_z {v v' : Int32} (E : zE cc ret w 0 0 (fun r0 w' g => w' = w ∧ r0 = some (.int v') ∧ g = f') G) (hr : ret = some .boolean) (h01 : v = 0 ∨ v = 1) (d : decode cc pc = .ok (.ireturn, 1)) (hv : v = v') (hf : f = f') : G (w, 0, 0) f ls pc [.int v] :=
  E.1 (w, 0, 0) f ls pc v (Or.inr ⟨hr, h01⟩) d (Nat.le_refl _) (Nat.le_refl _) ⟨Nat.le_refl _, fun _ _ => rfl⟩ ⟨rfl, by rw [hv], hf⟩
theorem zret_v (E : zE cc ret w 0 0 (fun r0 w' g => w' = w ∧ r0 = none ∧ g = f') G) (hr : ret = none) (d : decode cc pc = .ok (.return_, 1)) (hf : f = f') : G (w, 0, 0) f ls pc [] :=
  E.2.1 (w, 0, 0) f ls pc hr d (Nat.le_refl _) (Nat.le_refl _) ⟨Nat.le_refl _, fun _ _ => rfl⟩ ⟨rfl, rfl, hf⟩
theorem zret_a {v v' : Value} (E : zE cc ret w 0 0 (fun r0 w' g => w' = w ∧ r0 = some v' ∧ g = f') G) (hr : ∃ n, ret = some (.object n)) (hv9 : v = .null ∨ ∃ a, v = .ref a) (d : decode cc pc = .ok (.areturn, 1)) (hv : v = v') (hf : f = f') : G (w, 0, 0) f ls pc [v] :=
  E.2.2 (w, 0, 0) f ls pc v hr hv9 d (Nat.le_refl _) (Nat.le_refl _) ⟨Nat.le_refl _, fun _ _ => rfl⟩ ⟨rfl, by rw [hv], hf⟩
theorem zretp_i {post : Option Value → zF → Prop} {v : Int32} (E : zE cc ret w 0 0 (fun r0 w' g => w' = w ∧ post r0 g) G) (hr : ret = some .int) (d : decode cc pc = .ok (.ireturn, 1)) (hp : post (some (.int v)) f) : G (w, 0, 0) f ls pc [.int v] :=
  E.1 (w, 0, 0) f ls pc v (Or.inl hr) d (Nat.le_refl _) (Nat.le_refl _) ⟨Nat.le_refl _, fun _ _ => rfl⟩ ⟨rfl, hp⟩
theorem zretp_z {post : Option Value → zF → Prop} {v : Int32} (E : zE cc ret w 0 0 (fun r0 w' g => w' = w ∧ post r0 g) G) (hr : ret = some .boolean) (h01 : v = 0 ∨ v = 1) (d : decode cc pc = .ok (.ireturn, 1)) (hp : post (some (.int v)) f) : G (w, 0, 0) f ls pc [.int v] :=
  E.1 (w, 0, 0) f ls pc v (Or.inr ⟨hr, h01⟩) d (Nat.le_refl _) (Nat.le_refl _) ⟨Nat.le_refl _, fun _ _ => rfl⟩ ⟨rfl, hp⟩
theorem zretp_v {post : Option Value → zF → Prop} (E : zE cc ret w 0 0 (fun r0 w' g => w' = w ∧ post r0 g) G) (hr : ret = none) (d : decode cc pc = .ok (.return_, 1)) (hp : post none f) : G (w, 0, 0) f ls pc [] :=
  E.2.1 (w, 0, 0) f ls pc hr d (Nat.le_refl _) (Nat.le_refl _) ⟨Nat.le_refl _, fun _ _ => rfl⟩ ⟨rfl, hp⟩
theorem zcast {f2 : zF} {ls2 : List (Nat × Value)} (hf : f = f2) (hl : ls = ls2) (k : G κ f2 ls2 pc st) : G κ f ls pc st := hf ▸ hl ▸ k
theorem zdown {P : Nat → Prop} {B : Nat} (hB : P B) (hs : ∀ n, n < B → P (n + 1) → P n) : ∀ n, n ≤ B → P n := by
  intro n hn
  obtain ⟨k, hk⟩ : ∃ k, k = B - n := ⟨_, rfl⟩
  induction k generalizing n with
  | zero => rw [show n = B by omega]; exact hB
  | succ k ih => exact hs n (by omega) (ih (n + 1) (by omega) (by omega))
variable {yc : ByteArray} {yL n index : Nat} {As rest : List Value}
theorem zr_cV (X : zX l D cy own cc nL R nm G) {C : String} {ci : Nat} {q9 : vw_C} {fs : List Value} (hy : zCv y yc yL ret C n) (t : Nat) (ht : t < κ.1.1) (hf : f t = .inr (ci, fs)) (hci : vwCl[ci]? = some q9) (hC : q9.1 = C) (hM : zSd l D cy y yc yL ret fr lo (.ref (κ.1.2 t) :: As) κ.1 f r f') (hr : fr + 1 ≤ R.frames ∧ 8 + (yL + 11) + lo ≤ R.locals) (hk : κ.2.1 ≤ R.cells ∧ κ.2.2 ≤ R.slots) (hn : As.length = n) (hW : (rest.map fun v => v.category).sum ≤ 8) (hlink : Cond.methodLink own index y ∈ zTb) (hst : st = As.reverse ++ .ref (κ.1.2 t) :: rest) (d : decode cc pc = .ok (.invokevirtual index, 3)) (hst' : r.toList ++ rest = st') (k : G κ f' ls (pc + 3) st') : G κ f ls pc st := by
  obtain ⟨h1, h2, h3, h4, h5⟩ := hy
  refine zr_callV X t ht hf hci hC hM h5 h1 h2 ⟨hr.1, hr.2, hk⟩ hn hW hlink h3 h4 hst d (fun r0 w' g hq => ?_)
  obtain ⟨rfl, rfl, rfl⟩ := hq
  rw [hst']
  exact k
theorem zr_cS (X : zX l D cy own cc nL R nm G) (hy : zCs y yc yL ret n) (hM : zSd l D cy y yc yL ret fr lo As κ.1 f r f') (hr : fr + 1 ≤ R.frames ∧ 8 + (yL + 11) + lo ≤ R.locals) (hk : κ.2.1 ≤ R.cells ∧ κ.2.2 ≤ R.slots) (hn : As.length = n) (hW : (rest.map fun v => v.category).sum ≤ 8) (hlink : Cond.methodLink own index y ∈ zTb) (hst : st = As.reverse ++ rest) (d : decode cc pc = .ok (.invokestatic index, 3)) (hst' : r.toList ++ rest = st') (k : G κ f' ls (pc + 3) st') : G κ f ls pc st := by
  obtain ⟨h1, h2, h3, h5⟩ := hy
  refine zr_callS X hM h5 h1 h2 ⟨hr.1, hr.2, hk⟩ hn hW hlink h3 hst d (fun r0 w' g hq => ?_)
  obtain ⟨rfl, rfl, rfl⟩ := hq
  rw [hst']
  exact k
theorem zr_cSN (X : zX l D cy own cc nL R nm G) {host : String} (hy : zCs y yc yL ret n) (hM : zSd l D cy y yc yL ret fr lo As κ.1 f r f') (hr : fr + 1 ≤ R.frames ∧ 8 + (yL + 11) + lo ≤ R.locals) (hk : κ.2.1 ≤ R.cells ∧ κ.2.2 ≤ R.slots) (hn : As.length = n) (hW : (rest.map fun v => v.category).sum ≤ 8) (hlink : Cond.methodLinkNest own index y host ∈ zNests) (hst : st = As.reverse ++ rest) (d : decode cc pc = .ok (.invokestatic index, 3)) (hst' : r.toList ++ rest = st') (k : G κ f' ls (pc + 3) st') : G κ f ls pc st := by
  obtain ⟨h1, h2, h3, h5⟩ := hy
  refine zr_callSN X hM h5 h1 h2 ⟨hr.1, hr.2, hk⟩ hn hW hlink h3 hst d (fun r0 w' g hq => ?_)
  obtain ⟨rfl, rfl, rfl⟩ := hq
  rw [hst']
  exact k
theorem zr_cVp (X : zX l D cy own cc nL R nm G) {post : Option Value → zF → Prop} {C : String} {ci : Nat} {q9 : vw_C} {fs : List Value} (hy : zCv y yc yL ret C n) (t : Nat) (ht : t < κ.1.1) (hf : f t = .inr (ci, fs)) (hci : vwCl[ci]? = some q9) (hC : q9.1 = C) (hM : zSp l D cy y yc yL ret fr lo (.ref (κ.1.2 t) :: As) κ.1 f post) (hr : fr + 1 ≤ R.frames ∧ 8 + (yL + 11) + lo ≤ R.locals) (hk : κ.2.1 ≤ R.cells ∧ κ.2.2 ≤ R.slots) (hn : As.length = n) (hW : (rest.map fun v => v.category).sum ≤ 8) (hlink : Cond.methodLink own index y ∈ zTb) (hst : st = As.reverse ++ .ref (κ.1.2 t) :: rest) (d : decode cc pc = .ok (.invokevirtual index, 3)) (k : ∀ (r : Option Value) (f' : zF), post r f' → G κ f' ls (pc + 3) (r.toList ++ rest)) : G κ f ls pc st := by
  obtain ⟨h1, h2, h3, h4, h5⟩ := hy
  refine zr_callV X t ht hf hci hC hM h5 h1 h2 ⟨hr.1, hr.2, hk⟩ hn hW hlink h3 h4 hst d (fun r0 w' g hq => ?_)
  obtain ⟨rfl, hp⟩ := hq
  exact k r0 g hp
end ZS
theorem zfd_RX7_9 : zFd RX7 9 7 0 := ⟨_, _, _, _, rfl, zin_X7, by decide, zm_1_37, rfl⟩
theorem zfd_RX3_7 : zFd RX3 7 3 0 := ⟨_, _, _, _, rfl, zin_X3, by decide, zm_1_48, rfl⟩
theorem zfd_RX3_13 : zFd RX3 13 3 1 := ⟨_, _, _, _, rfl, zin_X3, by decide, zm_1_51, rfl⟩
theorem zfd_RX3_16 : zFd RX3 16 3 2 := ⟨_, _, _, _, rfl, zin_X3, by decide, zm_1_53, rfl⟩
theorem zfd_RX3_19 : zFd RX3 19 3 3 := ⟨_, _, _, _, rfl, zin_X3, by decide, zm_1_55, rfl⟩
theorem zfd_RX3_22 : zFd RX3 22 3 4 := ⟨_, _, _, _, rfl, zin_X3, by decide, zm_1_58, rfl⟩
theorem zfd_RX3_25 : zFd RX3 25 3 5 := ⟨_, _, _, _, rfl, zin_X3, by decide, zm_1_60, rfl⟩
theorem zfd_RX3_28 : zFd RX3 28 3 6 := ⟨_, _, _, _, rfl, zin_X3, by decide, zm_1_62, rfl⟩
theorem zfd_RX3_31 : zFd RX3 31 3 7 := ⟨_, _, _, _, rfl, zin_X3, by decide, zm_1_64, rfl⟩
theorem zfd_RX3_34 : zFd RX3 34 3 8 := ⟨_, _, _, _, rfl, zin_X3, by decide, zm_1_67, rfl⟩
theorem zfd_RX3_37 : zFd RX3 37 3 9 := ⟨_, _, _, _, rfl, zin_X3, by decide, zm_1_69, rfl⟩
theorem zfd_RX6_9 : zFd RX6 9 6 0 := ⟨_, _, _, _, rfl, zin_X6, by decide, zm_1_98, rfl⟩
theorem zfd_RX6_15 : zFd RX6 15 6 1 := ⟨_, _, _, _, rfl, zin_X6, by decide, zm_1_100, rfl⟩
theorem zfd_RX6_18 : zFd RX6 18 6 2 := ⟨_, _, _, _, rfl, zin_X6, by decide, zm_1_102, rfl⟩
theorem zfd_RX6_21 : zFd RX6 21 6 3 := ⟨_, _, _, _, rfl, zin_X6, by decide, zm_1_104, rfl⟩
theorem zfd_RX4_9 : zFd RX4 9 4 0 := ⟨_, _, _, _, rfl, zin_X4, by decide, zm_1_120, rfl⟩
theorem zfd_RX4_15 : zFd RX4 15 4 1 := ⟨_, _, _, _, rfl, zin_X4, by decide, zm_1_123, rfl⟩
theorem zfd_RX4_18 : zFd RX4 18 4 2 := ⟨_, _, _, _, rfl, zin_X4, by decide, zm_1_124, rfl⟩
theorem zfd_RX4_21 : zFd RX4 21 4 3 := ⟨_, _, _, _, rfl, zin_X4, by decide, zm_1_126, rfl⟩
theorem zfd_RX4_24 : zFd RX4 24 4 4 := ⟨_, _, _, _, rfl, zin_X4, by decide, zm_1_127, rfl⟩
theorem zfd_RX4_27 : zFd RX4 27 4 5 := ⟨_, _, _, _, rfl, zin_X4, by decide, zm_1_129, rfl⟩
theorem zfd_RX4_30 : zFd RX4 30 4 6 := ⟨_, _, _, _, rfl, zin_X4, by decide, zm_1_131, rfl⟩
theorem zfd_RX4_33 : zFd RX4 33 4 7 := ⟨_, _, _, _, rfl, zin_X4, by decide, zm_1_133, rfl⟩
theorem zfd_RX4_36 : zFd RX4 36 4 8 := ⟨_, _, _, _, rfl, zin_X4, by decide, zm_1_134, rfl⟩
theorem zfd_RX0_9 : zFd RX0 9 0 0 := ⟨_, _, _, _, rfl, zin_X0, by decide, zm_1_159, rfl⟩
theorem zfd_RX0_15 : zFd RX0 15 0 1 := ⟨_, _, _, _, rfl, zin_X0, by decide, zm_1_162, rfl⟩
theorem zfd_RX0_18 : zFd RX0 18 0 2 := ⟨_, _, _, _, rfl, zin_X0, by decide, zm_1_164, rfl⟩
theorem zfd_RX0_21 : zFd RX0 21 0 3 := ⟨_, _, _, _, rfl, zin_X0, by decide, zm_1_165, rfl⟩
theorem zfd_RX0_24 : zFd RX0 24 0 4 := ⟨_, _, _, _, rfl, zin_X0, by decide, zm_1_166, rfl⟩
theorem zfd_RX0_27 : zFd RX0 27 0 5 := ⟨_, _, _, _, rfl, zin_X0, by decide, zm_1_168, rfl⟩
theorem zfd_RX2_11 : zFd RX2 11 2 0 := ⟨_, _, _, _, rfl, zin_X2, by decide, zm_1_183, rfl⟩
theorem zfd_RX2_19 : zFd RX2 19 2 1 := ⟨_, _, _, _, rfl, zin_X2, by decide, zm_1_184, rfl⟩
theorem zfd_RX2_26 : zFd RX2 26 2 2 := ⟨_, _, _, _, rfl, zin_X2, by decide, zm_1_185, rfl⟩
theorem zfd_RX2_33 : zFd RX2 33 2 3 := ⟨_, _, _, _, rfl, zin_X2, by decide, zm_1_187, rfl⟩
theorem zfd_RX2_40 : zFd RX2 40 2 4 := ⟨_, _, _, _, rfl, zin_X2, by decide, zm_1_189, rfl⟩
theorem zfd_RX2_50 : zFd RX2 50 2 5 := ⟨_, _, _, _, rfl, zin_X2, by decide, zm_1_191, rfl⟩
theorem zfd_RX2_53 : zFd RX2 53 2 6 := ⟨_, _, _, _, rfl, zin_X2, by decide, zm_1_192, rfl⟩
theorem zfd_RX2_56 : zFd RX2 56 2 7 := ⟨_, _, _, _, rfl, zin_X2, by decide, zm_1_193, rfl⟩
theorem zfd_RX2_59 : zFd RX2 59 2 8 := ⟨_, _, _, _, rfl, zin_X2, by decide, zm_1_194, rfl⟩
theorem zfd_RX2_44 : zFd RX2 44 2 9 := ⟨_, _, _, _, rfl, zin_X2, by decide, zm_1_196, rfl⟩
theorem zfd_RX1_11 : zFd RX1 11 1 0 := ⟨_, _, _, _, rfl, zin_X1, by decide, zm_1_227, rfl⟩
theorem zfd_RX1_18 : zFd RX1 18 1 1 := ⟨_, _, _, _, rfl, zin_X1, by decide, zm_1_228, rfl⟩
theorem zfd_RX5_9 : zFd RX5 9 5 0 := ⟨_, _, _, _, rfl, zin_X5, by decide, zm_2_1, rfl⟩
theorem zfd_RX5_15 : zFd RX5 15 5 1 := ⟨_, _, _, _, rfl, zin_X5, by decide, zm_2_2, rfl⟩
theorem zfd_RX5_19 : zFd RX5 19 5 2 := ⟨_, _, _, _, rfl, zin_X5, by decide, zm_2_3, rfl⟩
theorem zfd_RX5_24 : zFd RX5 24 5 3 := ⟨_, _, _, _, rfl, zin_X5, by decide, zm_2_5, rfl⟩
theorem zfd_RX5_37 : zFd RX5 37 5 4 := ⟨_, _, _, _, rfl, zin_X5, by decide, zm_2_7, rfl⟩
theorem zfd_RX5_27 : zFd RX5 27 5 5 := ⟨_, _, _, _, rfl, zin_X5, by decide, zm_2_8, rfl⟩
theorem zfd_RX5_30 : zFd RX5 30 5 6 := ⟨_, _, _, _, rfl, zin_X5, by decide, zm_2_10, rfl⟩
theorem zfd_RX8_10 : zFd RX8 10 8 0 := ⟨_, _, _, _, rfl, zin_X8, by decide, zm_2_28, rfl⟩
theorem zfd_RX8_16 : zFd RX8 16 8 1 := ⟨_, _, _, _, rfl, zin_X8, by decide, zm_2_29, rfl⟩
theorem zfd_RX8_22 : zFd RX8 22 8 2 := ⟨_, _, _, _, rfl, zin_X8, by decide, zm_2_30, rfl⟩
theorem zfd_RX8_29 : zFd RX8 29 8 3 := ⟨_, _, _, _, rfl, zin_X8, by decide, zm_2_31, rfl⟩
theorem zfd_RX9_7 : zFd RX9 7 9 0 := ⟨_, _, _, _, rfl, zin_X9, by decide, zm_3_177, rfl⟩
theorem zfd_RX9_13 : zFd RX9 13 9 1 := ⟨_, _, _, _, rfl, zin_X9, by decide, zm_3_178, rfl⟩
theorem zfd_RX9_16 : zFd RX9 16 9 2 := ⟨_, _, _, _, rfl, zin_X9, by decide, zm_3_179, rfl⟩
theorem zfd_RX9_19 : zFd RX9 19 9 3 := ⟨_, _, _, _, rfl, zin_X9, by decide, zm_3_180, rfl⟩
theorem zfd_RX9_32 : zFd RX9 32 9 4 := ⟨_, _, _, _, rfl, zin_X9, by decide, zm_3_181, rfl⟩
theorem zfd_RX9_28 : zFd RX9 28 9 5 := ⟨_, _, _, _, rfl, zin_X9, by decide, zm_3_182, rfl⟩
theorem zfd_RX9_22 : zFd RX9 22 9 6 := ⟨_, _, _, _, rfl, zin_X9, by decide, zm_3_183, rfl⟩
theorem zfd_RX9_133 : zFd RX9 133 9 7 := ⟨_, _, _, _, rfl, zin_X9, by decide, zm_3_184, rfl⟩
theorem zfd_RX9_136 : zFd RX9 136 9 8 := ⟨_, _, _, _, rfl, zin_X9, by decide, zm_3_185, rfl⟩
theorem zfd_RX9_170 : zFd RX9 170 9 9 := ⟨_, _, _, _, rfl, zin_X9, by decide, zm_3_186, rfl⟩
theorem zfd_RX9_183 : zFd RX9 183 9 10 := ⟨_, _, _, _, rfl, zin_X9, by decide, zm_3_187, rfl⟩
theorem zfd_RX9_186 : zFd RX9 186 9 11 := ⟨_, _, _, _, rfl, zin_X9, by decide, zm_3_188, rfl⟩
theorem zfd_RX9_173 : zFd RX9 173 9 12 := ⟨_, _, _, _, rfl, zin_X9, by decide, zm_3_189, rfl⟩
theorem zfd_RX9_142 : zFd RX9 142 9 13 := ⟨_, _, _, _, rfl, zin_X9, by decide, zm_3_190, rfl⟩
theorem zfd_RX9_25 : zFd RX9 25 9 14 := ⟨_, _, _, _, rfl, zin_X9, by decide, zm_3_191, rfl⟩
theorem zfn_RX2_128 : zFn RX2 128 3 0 := ⟨_, _, _, _, _, rfl, zin_X3, by decide, List.mem_of_getElem? (i := 0) rfl, rfl⟩
theorem zfn_RX8_151 : zFn RX8 151 3 0 := ⟨_, _, _, _, _, rfl, zin_X3, by decide, List.mem_of_getElem? (i := 1) rfl, rfl⟩
theorem zfn_RX2_105 : zFn RX2 105 3 1 := ⟨_, _, _, _, _, rfl, zin_X3, by decide, List.mem_of_getElem? (i := 2) rfl, rfl⟩
theorem zfn_RX2_122 : zFn RX2 122 3 2 := ⟨_, _, _, _, _, rfl, zin_X3, by decide, List.mem_of_getElem? (i := 3) rfl, rfl⟩
theorem zfn_RX2_145 : zFn RX2 145 3 3 := ⟨_, _, _, _, _, rfl, zin_X3, by decide, List.mem_of_getElem? (i := 4) rfl, rfl⟩
theorem zfn_RX8_148 : zFn RX8 148 3 3 := ⟨_, _, _, _, _, rfl, zin_X3, by decide, List.mem_of_getElem? (i := 5) rfl, rfl⟩
theorem zfn_RX2_171 : zFn RX2 171 3 4 := ⟨_, _, _, _, _, rfl, zin_X3, by decide, List.mem_of_getElem? (i := 6) rfl, rfl⟩
theorem zfn_RX2_197 : zFn RX2 197 3 5 := ⟨_, _, _, _, _, rfl, zin_X3, by decide, List.mem_of_getElem? (i := 7) rfl, rfl⟩
theorem zfn_RX2_154 : zFn RX2 154 3 6 := ⟨_, _, _, _, _, rfl, zin_X3, by decide, List.mem_of_getElem? (i := 8) rfl, rfl⟩
theorem zfn_RX8_128 : zFn RX8 128 3 7 := ⟨_, _, _, _, _, rfl, zin_X3, by decide, List.mem_of_getElem? (i := 9) rfl, rfl⟩
theorem zfn_RX2_213 : zFn RX2 213 3 7 := ⟨_, _, _, _, _, rfl, zin_X3, by decide, List.mem_of_getElem? (i := 10) rfl, rfl⟩
theorem zfn_RX2_220 : zFn RX2 220 3 8 := ⟨_, _, _, _, _, rfl, zin_X3, by decide, List.mem_of_getElem? (i := 11) rfl, rfl⟩
theorem zfn_RX2_131 : zFn RX2 131 3 9 := ⟨_, _, _, _, _, rfl, zin_X3, by decide, List.mem_of_getElem? (i := 12) rfl, rfl⟩
theorem zfn_RX2_108 : zFn RX2 108 6 0 := ⟨_, _, _, _, _, rfl, zin_X6, by decide, List.mem_of_getElem? (i := 13) rfl, rfl⟩
theorem zfn_RX2_111 : zFn RX2 111 6 1 := ⟨_, _, _, _, _, rfl, zin_X6, by decide, List.mem_of_getElem? (i := 14) rfl, rfl⟩
theorem zfn_RX2_203 : zFn RX2 203 6 2 := ⟨_, _, _, _, _, rfl, zin_X6, by decide, List.mem_of_getElem? (i := 15) rfl, rfl⟩
theorem zfn_RX2_151 : zFn RX2 151 6 3 := ⟨_, _, _, _, _, rfl, zin_X6, by decide, List.mem_of_getElem? (i := 16) rfl, rfl⟩
theorem zfn_RX2_102 : zFn RX2 102 4 0 := ⟨_, _, _, _, _, rfl, zin_X4, by decide, List.mem_of_getElem? (i := 17) rfl, rfl⟩
theorem zfn_RX8_137 : zFn RX8 137 4 0 := ⟨_, _, _, _, _, rfl, zin_X4, by decide, List.mem_of_getElem? (i := 18) rfl, rfl⟩
theorem zfn_RX2_99 : zFn RX2 99 4 2 := ⟨_, _, _, _, _, rfl, zin_X4, by decide, List.mem_of_getElem? (i := 19) rfl, rfl⟩
theorem zfn_RX2_227 : zFn RX2 227 4 4 := ⟨_, _, _, _, _, rfl, zin_X4, by decide, List.mem_of_getElem? (i := 20) rfl, rfl⟩
theorem zfn_RX2_183 : zFn RX2 183 4 5 := ⟨_, _, _, _, _, rfl, zin_X4, by decide, List.mem_of_getElem? (i := 21) rfl, rfl⟩
theorem zfn_RX2_125 : zFn RX2 125 4 6 := ⟨_, _, _, _, _, rfl, zin_X4, by decide, List.mem_of_getElem? (i := 22) rfl, rfl⟩
theorem zfn_RX2_86 : zFn RX2 86 0 0 := ⟨_, _, _, _, _, rfl, zin_X0, by decide, List.mem_of_getElem? (i := 23) rfl, rfl⟩
theorem zfn_RX8_99 : zFn RX8 99 0 0 := ⟨_, _, _, _, _, rfl, zin_X0, by decide, List.mem_of_getElem? (i := 24) rfl, rfl⟩
theorem zfn_RX2_214 : zFn RX2 214 0 1 := ⟨_, _, _, _, _, rfl, zin_X0, by decide, List.mem_of_getElem? (i := 25) rfl, rfl⟩
theorem zfn_RX2_217 : zFn RX2 217 0 4 := ⟨_, _, _, _, _, rfl, zin_X0, by decide, List.mem_of_getElem? (i := 26) rfl, rfl⟩
theorem zfn_RX2_210 : zFn RX2 210 0 5 := ⟨_, _, _, _, _, rfl, zin_X0, by decide, List.mem_of_getElem? (i := 27) rfl, rfl⟩
theorem zfn_RX8_106 : zFn RX8 106 2 2 := ⟨_, _, _, _, _, rfl, zin_X2, by decide, List.mem_of_getElem? (i := 28) rfl, rfl⟩
theorem zfn_RX8_124 : zFn RX8 124 2 3 := ⟨_, _, _, _, _, rfl, zin_X2, by decide, List.mem_of_getElem? (i := 29) rfl, rfl⟩
theorem zfn_RX8_64 : zFn RX8 64 2 4 := ⟨_, _, _, _, _, rfl, zin_X2, by decide, List.mem_of_getElem? (i := 30) rfl, rfl⟩
theorem zfn_RX8_90 : zFn RX8 90 2 8 := ⟨_, _, _, _, _, rfl, zin_X2, by decide, List.mem_of_getElem? (i := 31) rfl, rfl⟩
theorem zfn_RX8_164 : zFn RX8 164 1 1 := ⟨_, _, _, _, _, rfl, zin_X1, by decide, List.mem_of_getElem? (i := 32) rfl, rfl⟩
theorem zfn_RX8_167 : zFn RX8 167 5 2 := ⟨_, _, _, _, _, rfl, zin_X5, by decide, List.mem_of_getElem? (i := 33) rfl, rfl⟩
theorem zfn_RX8_190 : zFn RX8 190 5 3 := ⟨_, _, _, _, _, rfl, zin_X5, by decide, List.mem_of_getElem? (i := 34) rfl, rfl⟩
theorem zfn_RX8_187 : zFn RX8 187 5 5 := ⟨_, _, _, _, _, rfl, zin_X5, by decide, List.mem_of_getElem? (i := 35) rfl, rfl⟩
theorem zfn_RX8_193 : zFn RX8 193 5 6 := ⟨_, _, _, _, _, rfl, zin_X5, by decide, List.mem_of_getElem? (i := 36) rfl, rfl⟩
theorem zty_0_0 : zTy 0 0 false RX0 .int := ⟨_, _, _, _, rfl, tyX0_ok, nmX0, rfl, fun _ => rfl, by decide +kernel⟩
theorem zty_0_1 : zTy 0 1 false RX0 .int := ⟨_, _, _, _, rfl, tyX0_ok, nmX0, rfl, fun _ => rfl, by decide +kernel⟩
theorem zty_0_2 : zTy 0 2 false RX0 .int := ⟨_, _, _, _, rfl, tyX0_ok, nmX0, rfl, fun _ => rfl, by decide +kernel⟩
theorem zty_0_3 : zTy 0 3 false RX0 .int := ⟨_, _, _, _, rfl, tyX0_ok, nmX0, rfl, fun _ => rfl, by decide +kernel⟩
theorem zty_0_4 : zTy 0 4 false RX0 .int := ⟨_, _, _, _, rfl, tyX0_ok, nmX0, rfl, fun _ => rfl, by decide +kernel⟩
theorem zty_0_5 : zTy 0 5 false RX0 .int := ⟨_, _, _, _, rfl, tyX0_ok, nmX0, rfl, fun _ => rfl, by decide +kernel⟩
theorem zty_1_0 : zTy 1 0 true RX1 (.array (.object "HutLoaves$Hut")) := ⟨_, _, _, _, rfl, tyX1_ok, nmX1, rfl, fun _ => rfl, by decide +kernel⟩
theorem zty_1_1 : zTy 1 1 false RX1 .int := ⟨_, _, _, _, rfl, tyX1_ok, nmX1, rfl, fun _ => rfl, by decide +kernel⟩
theorem zty_2_0 : zTy 2 0 true RX2 (.array (.object "HutLoaves$Mule")) := ⟨_, _, _, _, rfl, tyX2_ok, nmX2, rfl, fun _ => rfl, by decide +kernel⟩
theorem zty_2_1 : zTy 2 1 true RX2 (.array (.object "HutLoaves$Group")) := ⟨_, _, _, _, rfl, tyX2_ok, nmX2, rfl, fun _ => rfl, by decide +kernel⟩
theorem zty_2_2 : zTy 2 2 true RX2 (.object "HutLoaves$Shelf") := ⟨_, _, _, _, rfl, tyX2_ok, nmX2, rfl, fun _ => rfl, by decide +kernel⟩
theorem zty_2_3 : zTy 2 3 true RX2 (.object "HutLoaves$Ledger") := ⟨_, _, _, _, rfl, tyX2_ok, nmX2, rfl, fun _ => rfl, by decide +kernel⟩
theorem zty_2_4 : zTy 2 4 true RX2 (.object "HutLoaves$Settings") := ⟨_, _, _, _, rfl, tyX2_ok, nmX2, rfl, fun _ => rfl, by decide +kernel⟩
theorem zty_2_5 : zTy 2 5 false RX2 .int := ⟨_, _, _, _, rfl, tyX2_ok, nmX2, rfl, fun _ => rfl, by decide +kernel⟩
theorem zty_2_6 : zTy 2 6 false RX2 .int := ⟨_, _, _, _, rfl, tyX2_ok, nmX2, rfl, fun _ => rfl, by decide +kernel⟩
theorem zty_2_7 : zTy 2 7 false RX2 .int := ⟨_, _, _, _, rfl, tyX2_ok, nmX2, rfl, fun _ => rfl, by decide +kernel⟩
theorem zty_2_8 : zTy 2 8 false RX2 .int := ⟨_, _, _, _, rfl, tyX2_ok, nmX2, rfl, fun _ => rfl, by decide +kernel⟩
theorem zty_2_9 : zTy 2 9 false RX2 .int := ⟨_, _, _, _, rfl, tyX2_ok, nmX2, rfl, fun _ => rfl, by decide +kernel⟩
theorem zty_3_0 : zTy 3 0 false RX3 .int := ⟨_, _, _, _, rfl, tyX3_ok, nmX3, rfl, fun _ => rfl, by decide +kernel⟩
theorem zty_3_1 : zTy 3 1 false RX3 .int := ⟨_, _, _, _, rfl, tyX3_ok, nmX3, rfl, fun _ => rfl, by decide +kernel⟩
theorem zty_3_2 : zTy 3 2 false RX3 .int := ⟨_, _, _, _, rfl, tyX3_ok, nmX3, rfl, fun _ => rfl, by decide +kernel⟩
theorem zty_3_3 : zTy 3 3 false RX3 .int := ⟨_, _, _, _, rfl, tyX3_ok, nmX3, rfl, fun _ => rfl, by decide +kernel⟩
theorem zty_3_4 : zTy 3 4 false RX3 .int := ⟨_, _, _, _, rfl, tyX3_ok, nmX3, rfl, fun _ => rfl, by decide +kernel⟩
theorem zty_3_5 : zTy 3 5 false RX3 .int := ⟨_, _, _, _, rfl, tyX3_ok, nmX3, rfl, fun _ => rfl, by decide +kernel⟩
theorem zty_3_6 : zTy 3 6 false RX3 .int := ⟨_, _, _, _, rfl, tyX3_ok, nmX3, rfl, fun _ => rfl, by decide +kernel⟩
theorem zty_3_7 : zTy 3 7 false RX3 .int := ⟨_, _, _, _, rfl, tyX3_ok, nmX3, rfl, fun _ => rfl, by decide +kernel⟩
theorem zty_3_8 : zTy 3 8 false RX3 .int := ⟨_, _, _, _, rfl, tyX3_ok, nmX3, rfl, fun _ => rfl, by decide +kernel⟩
theorem zty_3_9 : zTy 3 9 false RX3 .int := ⟨_, _, _, _, rfl, tyX3_ok, nmX3, rfl, fun _ => rfl, by decide +kernel⟩
theorem zty_4_0 : zTy 4 0 false RX4 .int := ⟨_, _, _, _, rfl, tyX4_ok, nmX4, rfl, fun _ => rfl, by decide +kernel⟩
theorem zty_4_1 : zTy 4 1 false RX4 .int := ⟨_, _, _, _, rfl, tyX4_ok, nmX4, rfl, fun _ => rfl, by decide +kernel⟩
theorem zty_4_2 : zTy 4 2 false RX4 .int := ⟨_, _, _, _, rfl, tyX4_ok, nmX4, rfl, fun _ => rfl, by decide +kernel⟩
theorem zty_4_3 : zTy 4 3 false RX4 .int := ⟨_, _, _, _, rfl, tyX4_ok, nmX4, rfl, fun _ => rfl, by decide +kernel⟩
theorem zty_4_4 : zTy 4 4 false RX4 .int := ⟨_, _, _, _, rfl, tyX4_ok, nmX4, rfl, fun _ => rfl, by decide +kernel⟩
theorem zty_4_5 : zTy 4 5 false RX4 .int := ⟨_, _, _, _, rfl, tyX4_ok, nmX4, rfl, fun _ => rfl, by decide +kernel⟩
theorem zty_4_6 : zTy 4 6 false RX4 .int := ⟨_, _, _, _, rfl, tyX4_ok, nmX4, rfl, fun _ => rfl, by decide +kernel⟩
theorem zty_4_7 : zTy 4 7 false RX4 .int := ⟨_, _, _, _, rfl, tyX4_ok, nmX4, rfl, fun _ => rfl, by decide +kernel⟩
theorem zty_4_8 : zTy 4 8 false RX4 .int := ⟨_, _, _, _, rfl, tyX4_ok, nmX4, rfl, fun _ => rfl, by decide +kernel⟩
theorem zty_5_0 : zTy 5 0 true RX5 (.array .char) := ⟨_, _, _, _, rfl, tyX5_ok, nmX5, rfl, fun _ => rfl, by decide +kernel⟩
theorem zty_5_1 : zTy 5 1 true RX5 (.array .int) := ⟨_, _, _, _, rfl, tyX5_ok, nmX5, rfl, fun _ => rfl, by decide +kernel⟩
theorem zty_5_2 : zTy 5 2 false RX5 .int := ⟨_, _, _, _, rfl, tyX5_ok, nmX5, rfl, fun _ => rfl, by decide +kernel⟩
theorem zty_5_3 : zTy 5 3 false RX5 .int := ⟨_, _, _, _, rfl, tyX5_ok, nmX5, rfl, fun _ => rfl, by decide +kernel⟩
theorem zty_5_4 : zTy 5 4 false RX5 .int := ⟨_, _, _, _, rfl, tyX5_ok, nmX5, rfl, fun _ => rfl, by decide +kernel⟩
theorem zty_5_5 : zTy 5 5 false RX5 .int := ⟨_, _, _, _, rfl, tyX5_ok, nmX5, rfl, fun _ => rfl, by decide +kernel⟩
theorem zty_5_6 : zTy 5 6 false RX5 .int := ⟨_, _, _, _, rfl, tyX5_ok, nmX5, rfl, fun _ => rfl, by decide +kernel⟩
theorem zty_6_0 : zTy 6 0 false RX6 .int := ⟨_, _, _, _, rfl, tyX6_ok, nmX6, rfl, fun _ => rfl, by decide +kernel⟩
theorem zty_6_1 : zTy 6 1 false RX6 .int := ⟨_, _, _, _, rfl, tyX6_ok, nmX6, rfl, fun _ => rfl, by decide +kernel⟩
theorem zty_6_2 : zTy 6 2 false RX6 .int := ⟨_, _, _, _, rfl, tyX6_ok, nmX6, rfl, fun _ => rfl, by decide +kernel⟩
theorem zty_6_3 : zTy 6 3 false RX6 .int := ⟨_, _, _, _, rfl, tyX6_ok, nmX6, rfl, fun _ => rfl, by decide +kernel⟩
theorem zty_7_0 : zTy 7 0 true RX7 (.array .int) := ⟨_, _, _, _, rfl, tyX7_ok, nmX7, rfl, fun _ => rfl, by decide +kernel⟩
theorem zty_8_0 : zTy 8 0 true RX8 (.object "HutLoaves$Hut") := ⟨_, _, _, _, rfl, tyX8_ok, nmX8, rfl, fun _ => rfl, by decide +kernel⟩
theorem zty_8_1 : zTy 8 1 true RX8 (.object "HutLoaves$Hut") := ⟨_, _, _, _, rfl, tyX8_ok, nmX8, rfl, fun _ => rfl, by decide +kernel⟩
theorem zty_8_2 : zTy 8 2 true RX8 (.object "HutLoaves$History") := ⟨_, _, _, _, rfl, tyX8_ok, nmX8, rfl, fun _ => rfl, by decide +kernel⟩
theorem zty_8_3 : zTy 8 3 true RX8 (.object "HutLoaves$Orders") := ⟨_, _, _, _, rfl, tyX8_ok, nmX8, rfl, fun _ => rfl, by decide +kernel⟩
theorem zty_9_0 : zTy 9 0 true RX9 (.array .int) := ⟨_, _, _, _, rfl, tyX9_ok, nmX9, rfl, fun _ => rfl, by decide +kernel⟩
theorem zty_9_1 : zTy 9 1 true RX9 (.array .int) := ⟨_, _, _, _, rfl, tyX9_ok, nmX9, rfl, fun _ => rfl, by decide +kernel⟩
theorem zty_9_2 : zTy 9 2 true RX9 (.array .int) := ⟨_, _, _, _, rfl, tyX9_ok, nmX9, rfl, fun _ => rfl, by decide +kernel⟩
theorem zty_9_3 : zTy 9 3 true RX9 (.array .int) := ⟨_, _, _, _, rfl, tyX9_ok, nmX9, rfl, fun _ => rfl, by decide +kernel⟩
theorem zty_9_4 : zTy 9 4 false RX9 .int := ⟨_, _, _, _, rfl, tyX9_ok, nmX9, rfl, fun _ => rfl, by decide +kernel⟩
theorem zty_9_5 : zTy 9 5 false RX9 .boolean := ⟨_, _, _, _, rfl, tyX9_ok, nmX9, rfl, fun _ => rfl, by decide +kernel⟩
theorem zty_9_6 : zTy 9 6 true RX9 (.array .int) := ⟨_, _, _, _, rfl, tyX9_ok, nmX9, rfl, fun _ => rfl, by decide +kernel⟩
theorem zty_9_7 : zTy 9 7 false RX9 .int := ⟨_, _, _, _, rfl, tyX9_ok, nmX9, rfl, fun _ => rfl, by decide +kernel⟩
theorem zty_9_8 : zTy 9 8 false RX9 .int := ⟨_, _, _, _, rfl, tyX9_ok, nmX9, rfl, fun _ => rfl, by decide +kernel⟩
theorem zty_9_9 : zTy 9 9 false RX9 .int := ⟨_, _, _, _, rfl, tyX9_ok, nmX9, rfl, fun _ => rfl, by decide +kernel⟩
theorem zty_9_10 : zTy 9 10 false RX9 .int := ⟨_, _, _, _, rfl, tyX9_ok, nmX9, rfl, fun _ => rfl, by decide +kernel⟩
theorem zty_9_11 : zTy 9 11 false RX9 .int := ⟨_, _, _, _, rfl, tyX9_ok, nmX9, rfl, fun _ => rfl, by decide +kernel⟩
theorem zty_9_12 : zTy 9 12 false RX9 .int := ⟨_, _, _, _, rfl, tyX9_ok, nmX9, rfl, fun _ => rfl, by decide +kernel⟩
theorem zty_9_13 : zTy 9 13 false RX9 .int := ⟨_, _, _, _, rfl, tyX9_ok, nmX9, rfl, fun _ => rfl, by decide +kernel⟩
theorem zty_9_14 : zTy 9 14 true RX9 (.array .int) := ⟨_, _, _, _, rfl, tyX9_ok, nmX9, rfl, fun _ => rfl, by decide +kernel⟩
theorem zc_X0_init : zCi yX0_init cX0_init 1 0 := ⟨zm_1_157, zm_1_7, zm_1_156, rfl, by decide, by decide, by decide +kernel⟩
theorem zc_X0_copyFrom : zCv yX0_copyFrom cX0_copyFrom 2 none RX0 1 := ⟨zm_2_76, zm_1_7, zm_2_74, zm_2_75, rfl, by decide, by decide, by decide +kernel⟩
theorem zc_X0_begin : zCv yX0_begin cX0_begin 5 none RX0 4 := ⟨zm_2_147, zm_1_7, zm_2_145, zm_2_146, rfl, by decide, by decide, by decide +kernel⟩
theorem zc_X0_loavesADay : zCv yX0_loavesADay cX0_loavesADay 1 (some .int) RX0 0 := ⟨zm_2_210, zm_1_7, zm_2_208, zm_2_209, rfl, by decide, by decide, by decide +kernel⟩
theorem zc_X0_isThereOn : zCv yX0_isThereOn cX0_isThereOn 2 (some .boolean) RX0 1 := ⟨zm_2_202, zm_1_7, zm_2_200, zm_2_201, rfl, by decide, by decide, by decide +kernel⟩
theorem zc_X0_isGoneBy : zCv yX0_isGoneBy cX0_isGoneBy 2 (some .boolean) RX0 1 := ⟨zm_2_222, zm_1_7, zm_2_220, zm_2_221, rfl, by decide, by decide, by decide +kernel⟩
theorem zc_X0_tell : zCv yX0_tell cX0_tell 3 (some .int) RX0 2 := ⟨zm_3_21, zm_1_7, zm_3_19, zm_3_20, rfl, by decide, by decide, by decide +kernel⟩
theorem zc_X1_init : zCi yX1_init cX1_init 2 0 := ⟨zm_1_222, zm_1_8, zm_1_221, rfl, by decide, by decide, by decide +kernel⟩
theorem zc_X1_keep : zCv yX1_keep cX1_keep 3 none RX1 1 := ⟨zm_2_97, zm_1_8, zm_2_95, zm_2_96, rfl, by decide, by decide, by decide +kernel⟩
theorem zc_X1_dropOldest : zCv yX1_dropOldest cX1_dropOldest 3 none RX1 0 := ⟨zm_2_101, zm_1_8, zm_2_100, zm_0_1, rfl, by decide, by decide, by decide +kernel⟩
theorem zc_X1_takeLatest : zCv yX1_takeLatest cX1_takeLatest 1 (some (.object "HutLoaves$Hut")) RX1 0 := ⟨zm_3_111, zm_1_8, zm_3_109, zm_3_110, rfl, by decide, by decide, by decide +kernel⟩
theorem zc_X2_init : zCi yX2_init cX2_init 2 0 := ⟨zm_1_25, zm_1_2, zm_1_24, rfl, by decide, by decide, by decide +kernel⟩
theorem zc_X2_copyFrom : zCv yX2_copyFrom cX2_copyFrom 5 none RX2 1 := ⟨zm_2_48, zm_1_2, zm_2_46, zm_2_47, rfl, by decide, by decide, by decide +kernel⟩
theorem zc_X2_muleAt : zCv yX2_muleAt cX2_muleAt 2 (some (.object "HutLoaves$Mule")) RX2 1 := ⟨zm_2_64, zm_1_2, zm_2_62, zm_2_63, rfl, by decide, by decide, by decide +kernel⟩
theorem zc_X2_groupAt : zCv yX2_groupAt cX2_groupAt 2 (some (.object "HutLoaves$Group")) RX2 1 := ⟨zm_2_72, zm_1_2, zm_2_70, zm_2_71, rfl, by decide, by decide, by decide +kernel⟩
theorem zc_X2_placeOfGroup : zCv yX2_placeOfGroup cX2_placeOfGroup 4 (some .int) RX2 1 := ⟨zm_2_159, zm_1_2, zm_2_157, zm_2_158, rfl, by decide, by decide, by decide +kernel⟩
theorem zc_X2_addMule : zCv yX2_addMule cX2_addMule 5 (some .int) RX2 2 := ⟨zm_2_80, zm_1_2, zm_2_78, zm_2_79, rfl, by decide, by decide, by decide +kernel⟩
theorem zc_X2_whyNot : zCv yX2_whyNot cX2_whyNot 4 (some .int) RX2 2 := ⟨zm_2_114, zm_1_2, zm_2_112, zm_2_113, rfl, by decide, by decide, by decide +kernel⟩
theorem zc_X2_sendMule : zCv yX2_sendMule cX2_sendMule 5 (some .int) RX2 2 := ⟨zm_2_110, zm_1_2, zm_2_108, zm_2_109, rfl, by decide, by decide, by decide +kernel⟩
theorem zc_X2_restMule : zCv yX2_restMule cX2_restMule 4 (some .int) RX2 1 := ⟨zm_2_127, zm_1_2, zm_2_125, zm_2_126, rfl, by decide, by decide, by decide +kernel⟩
theorem zc_X2_payBaker : zCv yX2_payBaker cX2_payBaker 2 (some .int) RX2 1 := ⟨zm_2_135, zm_1_2, zm_2_133, zm_2_134, rfl, by decide, by decide, by decide +kernel⟩
theorem zc_X2_bookGroup : zCv yX2_bookGroup cX2_bookGroup 6 (some .int) RX2 3 := ⟨zm_2_143, zm_1_2, zm_2_141, zm_2_142, rfl, by decide, by decide, by decide +kernel⟩
theorem zc_X2_callOff : zCv yX2_callOff cX2_callOff 3 (some .int) RX2 1 := ⟨zm_2_155, zm_1_2, zm_2_153, zm_2_154, rfl, by decide, by decide, by decide +kernel⟩
theorem zc_X2_removeGroup : zCv yX2_removeGroup cX2_removeGroup 4 none RX2 1 := ⟨zm_2_163, zm_1_2, zm_2_162, zm_0_2, rfl, by decide, by decide, by decide +kernel⟩
theorem zc_X2_endDays : zCv yX2_endDays cX2_endDays 4 (some .int) RX2 1 := ⟨zm_2_171, zm_1_2, zm_2_169, zm_2_170, rfl, by decide, by decide, by decide +kernel⟩
theorem zc_X2_endDay : zCv yX2_endDay cX2_endDay 4 none RX2 0 := ⟨zm_2_175, zm_1_2, zm_2_173, zm_2_174, rfl, by decide, by decide, by decide +kernel⟩
theorem zc_X2_unload : zCv yX2_unload cX2_unload 5 none RX2 1 := ⟨zm_2_183, zm_1_2, zm_2_182, zm_0_3, rfl, by decide, by decide, by decide +kernel⟩
theorem zc_X2_feed : zCv yX2_feed cX2_feed 9 none RX2 1 := ⟨zm_2_206, zm_1_2, zm_2_205, zm_0_4, rfl, by decide, by decide, by decide +kernel⟩
theorem zc_X2_wantedOn : zCv yX2_wantedOn cX2_wantedOn 5 (some .int) RX2 1 := ⟨zm_3_48, zm_1_2, zm_3_46, zm_3_47, rfl, by decide, by decide, by decide +kernel⟩
theorem zc_X2_bestMule : zCv yX2_bestMule cX2_bestMule 5 (some .int) RX2 0 := ⟨zm_3_61, zm_1_2, zm_3_59, zm_3_60, rfl, by decide, by decide, by decide +kernel⟩
theorem zc_X2_loavesOnCredit : zCv yX2_loavesOnCredit cX2_loavesOnCredit 2 (some .int) RX2 0 := ⟨zm_3_69, zm_1_2, zm_3_67, zm_3_68, rfl, by decide, by decide, by decide +kernel⟩
theorem zc_X2_loavesOnTheirWayUp : zCv yX2_loavesOnTheirWayUp cX2_loavesOnTheirWayUp 4 (some .int) RX2 0 := ⟨zm_3_102, zm_1_2, zm_3_100, zm_3_101, rfl, by decide, by decide, by decide +kernel⟩
theorem zc_X2_tell : zCv yX2_tell cX2_tell 2 (some .int) RX2 1 := ⟨zm_3_98, zm_1_2, zm_3_96, zm_3_97, rfl, by decide, by decide, by decide +kernel⟩
theorem zc_X3_init : zCi yX3_init cX3_init 1 0 := ⟨zm_1_46, zm_1_4, zm_1_45, rfl, by decide, by decide, by decide +kernel⟩
theorem zc_X3_copyFrom : zCv yX3_copyFrom cX3_copyFrom 2 none RX3 1 := ⟨zm_2_56, zm_1_4, zm_2_54, zm_2_55, rfl, by decide, by decide, by decide +kernel⟩
theorem zc_X3_wasted : zCv yX3_wasted cX3_wasted 1 (some .int) RX3 0 := ⟨zm_3_78, zm_1_4, zm_3_76, zm_3_77, rfl, by decide, by decide, by decide +kernel⟩
theorem zc_X4_init : zCi yX4_init cX4_init 1 0 := ⟨zm_1_118, zm_1_6, zm_1_117, rfl, by decide, by decide, by decide +kernel⟩
theorem zc_X4_copyFrom : zCv yX4_copyFrom cX4_copyFrom 2 none RX4 1 := ⟨zm_2_68, zm_1_6, zm_2_66, zm_2_67, rfl, by decide, by decide, by decide +kernel⟩
theorem zc_X4_begin : zCv yX4_begin cX4_begin 3 none RX4 2 := ⟨zm_2_89, zm_1_6, zm_2_87, zm_2_88, rfl, by decide, by decide, by decide +kernel⟩
theorem zc_X4_leave : zCv yX4_leave cX4_leave 3 none RX4 2 := ⟨zm_2_119, zm_1_6, zm_2_117, zm_2_118, rfl, by decide, by decide, by decide +kernel⟩
theorem zc_X4_comeOn : zCv yX4_comeOn cX4_comeOn 2 (some .boolean) RX4 1 := ⟨zm_2_179, zm_1_6, zm_2_177, zm_2_178, rfl, by decide, by decide, by decide +kernel⟩
theorem zc_X4_unload : zCv yX4_unload cX4_unload 2 (some .int) RX4 0 := ⟨zm_2_187, zm_1_6, zm_2_185, zm_2_186, rfl, by decide, by decide, by decide +kernel⟩
theorem zc_X4_goesAheadOf : zCv yX4_goesAheadOf cX4_goesAheadOf 2 (some .boolean) RX4 1 := ⟨zm_3_65, zm_1_6, zm_3_63, zm_3_64, rfl, by decide, by decide, by decide +kernel⟩
theorem zc_X4_tell : zCv yX4_tell cX4_tell 2 (some .int) RX4 1 := ⟨zm_3_10, zm_1_6, zm_3_8, zm_3_9, rfl, by decide, by decide, by decide +kernel⟩
theorem zc_X5_init : zCi yX5_init cX5_init 1 0 := ⟨zm_1_239, zm_1_9, zm_1_238, rfl, by decide, by decide, by decide +kernel⟩
theorem zc_X5_append : zCv yX5_append cX5_append 2 (some .int) RX5 1 := ⟨zm_3_120, zm_1_9, zm_3_118, zm_3_119, rfl, by decide, by decide, by decide +kernel⟩
theorem zc_X5_empty : zCv yX5_empty cX5_empty 2 (some .int) RX5 0 := ⟨zm_3_129, zm_1_9, zm_3_127, zm_3_128, rfl, by decide, by decide, by decide +kernel⟩
theorem zc_X5_rehearse : zCv yX5_rehearse cX5_rehearse 5 (some .int) RX5 1 := ⟨zm_3_137, zm_1_9, zm_3_135, zm_3_136, rfl, by decide, by decide, by decide +kernel⟩
theorem zc_X5_perform : zCv yX5_perform cX5_perform 2 (some .int) RX5 1 := ⟨zm_3_157, zm_1_9, zm_3_156, zm_0_8, rfl, by decide, by decide, by decide +kernel⟩
theorem zc_X5_readOrder : zCv yX5_readOrder cX5_readOrder 3 (some .boolean) RX5 0 := ⟨zm_3_141, zm_1_9, zm_3_140, zm_0_5, rfl, by decide, by decide, by decide +kernel⟩
theorem zc_X5_partsOf : zCs yX5_partsOf cX5_partsOf 1 (some .int) 1 := ⟨zm_3_148, zm_1_9, zm_3_147, by decide, by decide, by decide +kernel⟩
theorem zc_X5_readNumber : zCv yX5_readNumber cX5_readNumber 4 (some .boolean) RX5 1 := ⟨zm_3_152, zm_1_9, zm_3_151, zm_0_7, rfl, by decide, by decide, by decide +kernel⟩
theorem zc_X5_signAt : zCv yX5_signAt cX5_signAt 2 (some .int) RX5 1 := ⟨zm_3_145, zm_1_9, zm_3_144, zm_0_6, rfl, by decide, by decide, by decide +kernel⟩
theorem zc_X5_numberAt : zCv yX5_numberAt cX5_numberAt 2 (some .int) RX5 1 := ⟨zm_3_161, zm_1_9, zm_3_160, zm_0_9, rfl, by decide, by decide, by decide +kernel⟩
theorem zc_X6_init : zCi yX6_init cX6_init 1 0 := ⟨zm_1_96, zm_1_5, zm_1_95, rfl, by decide, by decide, by decide +kernel⟩
theorem zc_X6_copyFrom : zCv yX6_copyFrom cX6_copyFrom 2 none RX6 1 := ⟨zm_2_60, zm_1_5, zm_2_58, zm_2_59, rfl, by decide, by decide, by decide +kernel⟩
theorem zc_X6_tell : zCv yX6_tell cX6_tell 2 (some .int) RX6 1 := ⟨zm_3_0, zm_1_5, zm_2_238, zm_2_239, rfl, by decide, by decide, by decide +kernel⟩
theorem zc_X6_change : zCv yX6_change cX6_change 4 (some .int) RX6 2 := ⟨zm_2_230, zm_1_5, zm_2_228, zm_2_229, rfl, by decide, by decide, by decide +kernel⟩
theorem zc_X7_init : zCi yX7_init cX7_init 1 0 := ⟨zm_1_35, zm_1_3, zm_1_34, rfl, by decide, by decide, by decide +kernel⟩
theorem zc_X7_copyFrom : zCv yX7_copyFrom cX7_copyFrom 3 none RX7 1 := ⟨zm_2_52, zm_1_3, zm_2_50, zm_2_51, rfl, by decide, by decide, by decide +kernel⟩
theorem zc_X7_howMany : zCv yX7_howMany cX7_howMany 5 (some .int) RX7 2 := ⟨zm_2_191, zm_1_3, zm_2_189, zm_2_190, rfl, by decide, by decide, by decide +kernel⟩
theorem zc_X7_agesTogether : zCv yX7_agesTogether cX7_agesTogether 3 (some .int) RX7 0 := ⟨zm_3_86, zm_1_3, zm_3_84, zm_3_85, rfl, by decide, by decide, by decide +kernel⟩
theorem zc_X7_store : zCv yX7_store cX7_store 3 none RX7 2 := ⟨zm_2_198, zm_1_3, zm_2_196, zm_2_197, rfl, by decide, by decide, by decide +kernel⟩
theorem zc_X7_take : zCv yX7_take cX7_take 7 (some .int) RX7 3 := ⟨zm_2_214, zm_1_3, zm_2_212, zm_2_213, rfl, by decide, by decide, by decide +kernel⟩
theorem zc_X7_growOlder : zCv yX7_growOlder cX7_growOlder 4 (some .int) RX7 0 := ⟨zm_2_218, zm_1_3, zm_2_216, zm_2_217, rfl, by decide, by decide, by decide +kernel⟩
theorem zc_X8_init : zCi yX8_init cX8_init 1 0 := ⟨zm_1_17, zm_1_1, zm_1_16, rfl, by decide, by decide, by decide +kernel⟩
theorem zc_X8_mule : zCv yX8_mule cX8_mule 3 (some .int) RX8 2 := ⟨zm_2_44, zm_1_1, zm_2_42, zm_2_43, rfl, by decide, by decide, by decide +kernel⟩
theorem zc_X8_send : zCv yX8_send cX8_send 3 (some .int) RX8 2 := ⟨zm_2_106, zm_1_1, zm_2_104, zm_2_105, rfl, by decide, by decide, by decide +kernel⟩
theorem zc_X8_rest : zCv yX8_rest cX8_rest 2 (some .int) RX8 1 := ⟨zm_2_123, zm_1_1, zm_2_121, zm_2_122, rfl, by decide, by decide, by decide +kernel⟩
theorem zc_X8_pay : zCv yX8_pay cX8_pay 2 (some .int) RX8 1 := ⟨zm_2_131, zm_1_1, zm_2_129, zm_2_130, rfl, by decide, by decide, by decide +kernel⟩
theorem zc_X8_group : zCv yX8_group cX8_group 4 (some .int) RX8 3 := ⟨zm_2_139, zm_1_1, zm_2_137, zm_2_138, rfl, by decide, by decide, by decide +kernel⟩
theorem zc_X8_off : zCv yX8_off cX8_off 2 (some .int) RX8 1 := ⟨zm_2_151, zm_1_1, zm_2_149, zm_2_150, rfl, by decide, by decide, by decide +kernel⟩
theorem zc_X8_end : zCv yX8_end cX8_end 2 (some .int) RX8 1 := ⟨zm_2_167, zm_1_1, zm_2_165, zm_2_166, rfl, by decide, by decide, by decide +kernel⟩
theorem zc_X8_set : zCv yX8_set cX8_set 3 (some .int) RX8 2 := ⟨zm_2_226, zm_1_1, zm_2_224, zm_2_225, rfl, by decide, by decide, by decide +kernel⟩
theorem zc_X8_muleOf : zCv yX8_muleOf cX8_muleOf 4 (some .int) RX8 2 := ⟨zm_3_4, zm_1_1, zm_3_2, zm_3_3, rfl, by decide, by decide, by decide +kernel⟩
theorem zc_X8_groupOf : zCv yX8_groupOf cX8_groupOf 4 (some .int) RX8 2 := ⟨zm_3_15, zm_1_1, zm_3_13, zm_3_14, rfl, by decide, by decide, by decide +kernel⟩
theorem zc_X8_number : zCv yX8_number cX8_number 3 (some .int) RX8 1 := ⟨zm_3_28, zm_1_1, zm_3_26, zm_3_27, rfl, by decide, by decide, by decide +kernel⟩
theorem zc_X8_loaves : zCv yX8_loaves cX8_loaves 2 (some .int) RX8 1 := ⟨zm_3_33, zm_1_1, zm_3_31, zm_3_32, rfl, by decide, by decide, by decide +kernel⟩
theorem zc_X8_why : zCv yX8_why cX8_why 3 (some .int) RX8 2 := ⟨zm_3_39, zm_1_1, zm_3_37, zm_3_38, rfl, by decide, by decide, by decide +kernel⟩
theorem zc_X8_wanted : zCv yX8_wanted cX8_wanted 2 (some .int) RX8 1 := ⟨zm_3_44, zm_1_1, zm_3_42, zm_3_43, rfl, by decide, by decide, by decide +kernel⟩
theorem zc_X8_hungry : zCv yX8_hungry cX8_hungry 2 (some .int) RX8 0 := ⟨zm_3_52, zm_1_1, zm_3_50, zm_3_51, rfl, by decide, by decide, by decide +kernel⟩
theorem zc_X8_next : zCv yX8_next cX8_next 4 (some .int) RX8 1 := ⟨zm_3_57, zm_1_1, zm_3_55, zm_3_56, rfl, by decide, by decide, by decide +kernel⟩
theorem zc_X8_would : zCv yX8_would cX8_would 4 (some .int) RX8 2 := ⟨zm_3_74, zm_1_1, zm_3_72, zm_3_73, rfl, by decide, by decide, by decide +kernel⟩
theorem zc_X8_mean : zCv yX8_mean cX8_mean 2 (some .int) RX8 0 := ⟨zm_3_82, zm_1_1, zm_3_80, zm_3_81, rfl, by decide, by decide, by decide +kernel⟩
theorem zc_X8_count : zCv yX8_count cX8_count 2 (some .int) RX8 1 := ⟨zm_3_94, zm_1_1, zm_3_92, zm_3_93, rfl, by decide, by decide, by decide +kernel⟩
theorem zc_X8_undo : zCv yX8_undo cX8_undo 2 (some .int) RX8 0 := ⟨zm_3_107, zm_1_1, zm_3_105, zm_3_106, rfl, by decide, by decide, by decide +kernel⟩
theorem zc_X8_type : zCv yX8_type cX8_type 2 (some .int) RX8 1 := ⟨zm_3_116, zm_1_1, zm_3_114, zm_3_115, rfl, by decide, by decide, by decide +kernel⟩
theorem zc_X8_clearText : zCv yX8_clearText cX8_clearText 1 (some .int) RX8 0 := ⟨zm_3_125, zm_1_1, zm_3_123, zm_3_124, rfl, by decide, by decide, by decide +kernel⟩
theorem zc_X8_fault : zCv yX8_fault cX8_fault 2 (some .int) RX8 1 := ⟨zm_3_133, zm_1_1, zm_3_131, zm_3_132, rfl, by decide, by decide, by decide +kernel⟩
theorem zc_X8_play : zCv yX8_play cX8_play 2 (some .int) RX8 0 := ⟨zm_3_170, zm_1_1, zm_3_168, zm_3_169, rfl, by decide, by decide, by decide +kernel⟩
theorem zc_X8_takeOver : zCv yX8_takeOver cX8_takeOver 2 (some .int) RX8 1 := ⟨zm_2_93, zm_1_1, zm_2_92, zm_0_0, rfl, by decide, by decide, by decide +kernel⟩
theorem zc_X8_isWithin : zCs yX8_isWithin cX8_isWithin 3 (some .boolean) 3 := ⟨zm_2_83, zm_1_1, zm_2_82, by decide, by decide, by decide +kernel⟩
theorem zc_X8_bitsOf : zCs yX8_bitsOf cX8_bitsOf 4 (some .int) 1 := ⟨zm_3_89, zm_1_1, zm_3_88, by decide, by decide, by decide +kernel⟩
theorem zc_X9_init : zCi yX9_init cX9_init 1 0 := ⟨zm_3_175, zm_1_10, zm_3_174, rfl, by decide, by decide, by decide +kernel⟩
theorem zc_X9_in : zCs yX9_in cX9_in 3 (some .boolean) 3 := ⟨zm_3_229, zm_1_10, zm_3_228, by decide, by decide, by decide +kernel⟩
theorem zc_X9_lesser : zCs yX9_lesser cX9_lesser 2 (some .int) 2 := ⟨zm_4_76, zm_1_10, zm_4_75, by decide, by decide, by decide +kernel⟩
theorem zc_X9_copies : zCs yX9_copies cX9_copies 3 none 2 := ⟨zm_4_137, zm_1_10, zm_4_136, by decide, by decide, by decide +kernel⟩
theorem zc_X9_changes : zCv yX9_changes cX9_changes 2 none RX9 0 := ⟨zm_3_235, zm_1_10, zm_3_234, zm_0_10, rfl, by decide, by decide, by decide +kernel⟩
theorem zc_X9_isMule : zCv yX9_isMule cX9_isMule 2 (some .boolean) RX9 1 := ⟨zm_4_7, zm_1_10, zm_4_6, zm_0_12, rfl, by decide, by decide, by decide +kernel⟩
theorem zc_X9_of : zCv yX9_of cX9_of 3 (some .int) RX9 2 := ⟨zm_4_15, zm_1_10, zm_4_14, zm_0_14, rfl, by decide, by decide, by decide +kernel⟩
theorem zc_X9_sets : zCv yX9_sets cX9_sets 4 none RX9 3 := ⟨zm_3_239, zm_1_10, zm_3_238, zm_0_11, rfl, by decide, by decide, by decide +kernel⟩
theorem zc_X9_ofGroup : zCv yX9_ofGroup cX9_ofGroup 3 (some .int) RX9 2 := ⟨zm_4_40, zm_1_10, zm_4_39, zm_0_16, rfl, by decide, by decide, by decide +kernel⟩
theorem zc_X9_placeOf : zCv yX9_placeOf cX9_placeOf 3 (some .int) RX9 1 := ⟨zm_4_36, zm_1_10, zm_4_35, zm_0_15, rfl, by decide, by decide, by decide +kernel⟩
theorem zc_X9_loavesFrom : zCv yX9_loavesFrom cX9_loavesFrom 5 (some .int) RX9 2 := ⟨zm_4_73, zm_1_10, zm_4_72, zm_0_23, rfl, by decide, by decide, by decide +kernel⟩
theorem zc_X9_allLoaves : zCv yX9_allLoaves cX9_allLoaves 1 (some .int) RX9 0 := ⟨zm_4_69, zm_1_10, zm_4_68, zm_0_22, rfl, by decide, by decide, by decide +kernel⟩
theorem zc_X9_stale : zCv yX9_stale cX9_stale 1 (some .int) RX9 0 := ⟨zm_4_99, zm_1_10, zm_4_98, zm_0_28, rfl, by decide, by decide, by decide +kernel⟩
theorem zc_X9_stores : zCv yX9_stores cX9_stores 5 none RX9 1 := ⟨zm_4_65, zm_1_10, zm_4_64, zm_0_21, rfl, by decide, by decide, by decide +kernel⟩
theorem zc_X9_comesHome : zCv yX9_comesHome cX9_comesHome 3 none RX9 1 := ⟨zm_4_80, zm_1_10, zm_4_79, zm_0_24, rfl, by decide, by decide, by decide +kernel⟩
theorem zc_X9_comesOn : zCv yX9_comesOn cX9_comesOn 3 none RX9 1 := ⟨zm_4_61, zm_1_10, zm_4_60, zm_0_20, rfl, by decide, by decide, by decide +kernel⟩
theorem zc_X9_takes : zCv yX9_takes cX9_takes 7 none RX9 3 := ⟨zm_4_95, zm_1_10, zm_4_94, zm_0_27, rfl, by decide, by decide, by decide +kernel⟩
theorem zc_X9_isThere : zCv yX9_isThere cX9_isThere 3 (some .boolean) RX9 2 := ⟨zm_4_84, zm_1_10, zm_4_83, zm_0_25, rfl, by decide, by decide, by decide +kernel⟩
theorem zc_X9_wants : zCs yX9_wants cX9_wants 1 (some .int) 1 := ⟨zm_4_91, zm_1_10, zm_4_90, by decide, by decide, by decide +kernel⟩
theorem zc_X9_eats : zCv yX9_eats cX9_eats 8 none RX9 1 := ⟨zm_4_88, zm_1_10, zm_4_87, zm_0_26, rfl, by decide, by decide, by decide +kernel⟩
theorem zc_X9_goes : zCv yX9_goes cX9_goes 3 none RX9 1 := ⟨zm_4_45, zm_1_10, zm_4_44, zm_0_17, rfl, by decide, by decide, by decide +kernel⟩
theorem zc_X9_ends : zCv yX9_ends cX9_ends 4 none RX9 0 := ⟨zm_4_57, zm_1_10, zm_4_56, zm_0_19, rfl, by decide, by decide, by decide +kernel⟩
theorem zc_X9_endsFor : zCv yX9_endsFor cX9_endsFor 4 (some .int) RX9 1 := ⟨zm_4_53, zm_1_10, zm_4_52, zm_0_18, rfl, by decide, by decide, by decide +kernel⟩
theorem zc_X9_mule : zCv yX9_mule cX9_mule 5 (some .int) RX9 2 := ⟨zm_3_226, zm_1_10, zm_3_224, zm_3_225, rfl, by decide, by decide, by decide +kernel⟩
theorem zc_X9_whyNot : zCv yX9_whyNot cX9_whyNot 3 (some .int) RX9 2 := ⟨zm_4_11, zm_1_10, zm_4_10, zm_0_13, rfl, by decide, by decide, by decide +kernel⟩
theorem zc_X9_send : zCv yX9_send cX9_send 3 (some .int) RX9 2 := ⟨zm_4_3, zm_1_10, zm_4_1, zm_4_2, rfl, by decide, by decide, by decide +kernel⟩
theorem zc_X9_rest : zCv yX9_rest cX9_rest 3 (some .int) RX9 1 := ⟨zm_4_20, zm_1_10, zm_4_18, zm_4_19, rfl, by decide, by decide, by decide +kernel⟩
theorem zc_X9_pay : zCv yX9_pay cX9_pay 2 (some .int) RX9 1 := ⟨zm_4_24, zm_1_10, zm_4_22, zm_4_23, rfl, by decide, by decide, by decide +kernel⟩
theorem zc_X9_group : zCv yX9_group cX9_group 6 (some .int) RX9 3 := ⟨zm_4_28, zm_1_10, zm_4_26, zm_4_27, rfl, by decide, by decide, by decide +kernel⟩
theorem zc_X9_off : zCv yX9_off cX9_off 3 (some .int) RX9 1 := ⟨zm_4_32, zm_1_10, zm_4_30, zm_4_31, rfl, by decide, by decide, by decide +kernel⟩
theorem zc_X9_end : zCv yX9_end cX9_end 2 (some .int) RX9 1 := ⟨zm_4_49, zm_1_10, zm_4_47, zm_4_48, rfl, by decide, by decide, by decide +kernel⟩
theorem zc_X9_maySet : zCs yX9_maySet cX9_maySet 2 (some .boolean) 2 := ⟨zm_4_106, zm_1_10, zm_4_105, by decide, by decide, by decide +kernel⟩
theorem zc_X9_set : zCv yX9_set cX9_set 4 (some .int) RX9 2 := ⟨zm_4_103, zm_1_10, zm_4_101, zm_4_102, rfl, by decide, by decide, by decide +kernel⟩
theorem zc_X9_muleOf : zCv yX9_muleOf cX9_muleOf 3 (some .int) RX9 2 := ⟨zm_4_110, zm_1_10, zm_4_108, zm_4_109, rfl, by decide, by decide, by decide +kernel⟩
theorem zc_X9_groupOf : zCv yX9_groupOf cX9_groupOf 4 (some .int) RX9 2 := ⟨zm_4_114, zm_1_10, zm_4_112, zm_4_113, rfl, by decide, by decide, by decide +kernel⟩
theorem zc_X9_number : zCv yX9_number cX9_number 2 (some .int) RX9 1 := ⟨zm_4_118, zm_1_10, zm_4_116, zm_4_117, rfl, by decide, by decide, by decide +kernel⟩
theorem zc_X9_loaves : zCv yX9_loaves cX9_loaves 2 (some .int) RX9 1 := ⟨zm_4_122, zm_1_10, zm_4_120, zm_4_121, rfl, by decide, by decide, by decide +kernel⟩
theorem zc_X9_why : zCv yX9_why cX9_why 3 (some .int) RX9 2 := ⟨zm_4_126, zm_1_10, zm_4_124, zm_4_125, rfl, by decide, by decide, by decide +kernel⟩
theorem zc_X9_wanted : zCv yX9_wanted cX9_wanted 4 (some .int) RX9 1 := ⟨zm_4_130, zm_1_10, zm_4_128, zm_4_129, rfl, by decide, by decide, by decide +kernel⟩
theorem zc_X9_hungry : zCv yX9_hungry cX9_hungry 3 (some .int) RX9 0 := ⟨zm_4_134, zm_1_10, zm_4_132, zm_4_133, rfl, by decide, by decide, by decide +kernel⟩
theorem zc_X9_nextMule : zCv yX9_nextMule cX9_nextMule 4 (some .int) RX9 0 := ⟨zm_4_145, zm_1_10, zm_4_144, zm_0_29, rfl, by decide, by decide, by decide +kernel⟩
theorem zc_X9_next : zCv yX9_next cX9_next 4 (some .int) RX9 1 := ⟨zm_4_141, zm_1_10, zm_4_139, zm_4_140, rfl, by decide, by decide, by decide +kernel⟩
theorem zc_X9_would : zCv yX9_would cX9_would 5 (some .int) RX9 2 := ⟨zm_4_149, zm_1_10, zm_4_147, zm_4_148, rfl, by decide, by decide, by decide +kernel⟩
theorem zc_X9_mean : zCv yX9_mean cX9_mean 4 (some .int) RX9 0 := ⟨zm_4_153, zm_1_10, zm_4_151, zm_4_152, rfl, by decide, by decide, by decide +kernel⟩
theorem zc_X9_onTheWay : zCv yX9_onTheWay cX9_onTheWay 3 (some .int) RX9 0 := ⟨zm_4_171, zm_1_10, zm_4_170, zm_0_30, rfl, by decide, by decide, by decide +kernel⟩
theorem zc_X9_count : zCv yX9_count cX9_count 2 (some .int) RX9 1 := ⟨zm_4_167, zm_1_10, zm_4_165, zm_4_166, rfl, by decide, by decide, by decide +kernel⟩
theorem zc_X9_undo : zCv yX9_undo cX9_undo 2 (some .int) RX9 0 := ⟨zm_4_175, zm_1_10, zm_4_173, zm_4_174, rfl, by decide, by decide, by decide +kernel⟩
theorem zc_X9_type : zCv yX9_type cX9_type 2 (some .int) RX9 1 := ⟨zm_4_179, zm_1_10, zm_4_177, zm_4_178, rfl, by decide, by decide, by decide +kernel⟩
theorem zc_X9_clearText : zCv yX9_clearText cX9_clearText 2 (some .int) RX9 0 := ⟨zm_4_183, zm_1_10, zm_4_181, zm_4_182, rfl, by decide, by decide, by decide +kernel⟩
theorem zc_X9_isAt : zCv yX9_isAt cX9_isAt 3 (some .boolean) RX9 2 := ⟨zm_4_199, zm_1_10, zm_4_198, zm_0_33, rfl, by decide, by decide, by decide +kernel⟩
theorem zc_X9_sign : zCv yX9_sign cX9_sign 3 (some .boolean) RX9 1 := ⟨zm_4_210, zm_1_10, zm_4_209, zm_0_35, rfl, by decide, by decide, by decide +kernel⟩
theorem zc_X9_numbered : zCv yX9_numbered cX9_numbered 3 (some .boolean) RX9 1 := ⟨zm_4_206, zm_1_10, zm_4_205, zm_0_34, rfl, by decide, by decide, by decide +kernel⟩
theorem zc_X9_numbersOf : zCs yX9_numbersOf cX9_numbersOf 1 (some .int) 1 := ⟨zm_4_202, zm_1_10, zm_4_201, by decide, by decide, by decide +kernel⟩
theorem zc_X9_reads : zCv yX9_reads cX9_reads 4 (some .boolean) RX9 0 := ⟨zm_4_195, zm_1_10, zm_4_194, zm_0_32, rfl, by decide, by decide, by decide +kernel⟩
theorem zc_X9_calls : zCv yX9_calls cX9_calls 1 (some .int) RX9 0 := ⟨zm_4_214, zm_1_10, zm_4_213, zm_0_36, rfl, by decide, by decide, by decide +kernel⟩
theorem zc_X9_plays : zCv yX9_plays cX9_plays 4 (some .boolean) RX9 0 := ⟨zm_4_191, zm_1_10, zm_4_190, zm_0_31, rfl, by decide, by decide, by decide +kernel⟩
theorem zc_X9_fault : zCv yX9_fault cX9_fault 3 (some .int) RX9 1 := ⟨zm_4_187, zm_1_10, zm_4_185, zm_4_186, rfl, by decide, by decide, by decide +kernel⟩
theorem zc_X9_play : zCv yX9_play cX9_play 2 (some .int) RX9 0 := ⟨zm_4_223, zm_1_10, zm_4_221, zm_4_222, rfl, by decide, by decide, by decide +kernel⟩
theorem zc_Jxf58ca_isNaN_12338 : zCs yJxf58ca_isNaN_12338 cJxf58ca_isNaN_12338 1 (some .boolean) 1 := ⟨zm_4_159, zm_1_12, zm_4_158, by decide, by decide, by decide +kernel⟩
theorem zc_Jxf58ca_floatToIntBits_5c35a : zCs yJxf58ca_floatToIntBits_5c35a cJxf58ca_floatToIntBits_5c35a 1 (some .int) 1 := ⟨zm_4_156, zm_1_12, zm_4_155, by decide, by decide, by decide +kernel⟩
theorem zc_J9_min_7cf53 : zCs yJ9_min_7cf53 cJ9_min_7cf53 2 (some .int) 2 := ⟨zm_2_194, zm_1_11, zm_2_193, by decide, by decide, by decide +kernel⟩
def eMuleL (v : Nat → Int32) : List Value := [.int (v 0), .int (v 1), .int (v 2), .int (v 3), .int (v 4), .int (v 5), .int (v 6), .int (v 7), .int (v 8)]
abbrev eMule (v : Nat → Int32) : va_E := .inr (4, eMuleL v)
theorem eMule_set (v : Nat → Int32) (x : Int32) : ∀ i, i < 9 → (eMuleL v).set i (.int x) = eMuleL (upd v i x)
  | 0, _ => rfl
  | 1, _ => rfl
  | 2, _ => rfl
  | 3, _ => rfl
  | 4, _ => rfl
  | 5, _ => rfl
  | 6, _ => rfl
  | 7, _ => rfl
  | 8, _ => rfl
  | i + 9, h => absurd h (by omega)
theorem eMule_congr {u v : Nat → Int32} (h : ∀ i, i < 9 → u i = v i) : eMule u = eMule v := by
  simp only [eMule, eMuleL, h 0 (by decide), h 1 (by decide), h 2 (by decide), h 3 (by decide), h 4 (by decide), h 5 (by decide), h 6 (by decide), h 7 (by decide), h 8 (by decide)]
def eGroupL (v : Nat → Int32) : List Value := [.int (v 0), .int (v 1), .int (v 2), .int (v 3), .int (v 4), .int (v 5)]
abbrev eGroup (v : Nat → Int32) : va_E := .inr (0, eGroupL v)
theorem eGroup_set (v : Nat → Int32) (x : Int32) : ∀ i, i < 6 → (eGroupL v).set i (.int x) = eGroupL (upd v i x)
  | 0, _ => rfl
  | 1, _ => rfl
  | 2, _ => rfl
  | 3, _ => rfl
  | 4, _ => rfl
  | 5, _ => rfl
  | i + 6, h => absurd h (by omega)
theorem eGroup_congr {u v : Nat → Int32} (h : ∀ i, i < 6 → u i = v i) : eGroup u = eGroup v := by
  simp only [eGroup, eGroupL, h 0 (by decide), h 1 (by decide), h 2 (by decide), h 3 (by decide), h 4 (by decide), h 5 (by decide)]
def eLedgerL (v : Nat → Int32) : List Value := [.int (v 0), .int (v 1), .int (v 2), .int (v 3), .int (v 4), .int (v 5), .int (v 6), .int (v 7), .int (v 8), .int (v 9)]
abbrev eLedger (v : Nat → Int32) : va_E := .inr (3, eLedgerL v)
theorem eLedger_set (v : Nat → Int32) (x : Int32) : ∀ i, i < 10 → (eLedgerL v).set i (.int x) = eLedgerL (upd v i x)
  | 0, _ => rfl
  | 1, _ => rfl
  | 2, _ => rfl
  | 3, _ => rfl
  | 4, _ => rfl
  | 5, _ => rfl
  | 6, _ => rfl
  | 7, _ => rfl
  | 8, _ => rfl
  | 9, _ => rfl
  | i + 10, h => absurd h (by omega)
theorem eLedger_congr {u v : Nat → Int32} (h : ∀ i, i < 10 → u i = v i) : eLedger u = eLedger v := by
  simp only [eLedger, eLedgerL, h 0 (by decide), h 1 (by decide), h 2 (by decide), h 3 (by decide), h 4 (by decide), h 5 (by decide), h 6 (by decide), h 7 (by decide), h 8 (by decide), h 9 (by decide)]
def eSettL (v : Nat → Int32) : List Value := [.int (v 0), .int (v 1), .int (v 2), .int (v 3)]
abbrev eSett (v : Nat → Int32) : va_E := .inr (6, eSettL v)
theorem eSett_set (v : Nat → Int32) (x : Int32) : ∀ i, i < 4 → (eSettL v).set i (.int x) = eSettL (upd v i x)
  | 0, _ => rfl
  | 1, _ => rfl
  | 2, _ => rfl
  | 3, _ => rfl
  | i + 4, h => absurd h (by omega)
theorem eSett_congr {u v : Nat → Int32} (h : ∀ i, i < 4 → u i = v i) : eSett u = eSett v := by
  simp only [eSett, eSettL, h 0 (by decide), h 1 (by decide), h 2 (by decide), h 3 (by decide)]
theorem va_up_up {α : Type} {f : Nat → α} {k : Nat} {v u : α} : va_up (va_up f k v) k u = va_up f k u := by
  funext j
  unfold va_up
  by_cases h : j = k
  · rw [if_pos h, if_pos h]
  · rw [if_neg h, if_neg h, if_neg h]
/-- one less, from 0 on: -1 -/
def zpr : Nat → Int32
  | 0 => -1
  | n + 1 => nI n
theorem zinc1 (n : Nat) : nI n + Int32.ofInt 1 = nI (n + 1) := (nI_succ n).symm
theorem zdec1 : ∀ n : Nat, nI n + Int32.ofInt (-1) = zpr n
  | 0 => by decide
  | n + 1 => by
    show nI (n + 1) + Int32.ofInt (-1) = nI n
    rw [nI_succ, show Int32.ofInt (-1) = (-1 : Int32) by decide, Int32.add_assoc, show (1 : Int32) + (-1) = 0 by decide, Int32.add_zero]
theorem zupw {P : Nat → Prop} {B : Nat} (h0 : P 0) (hs : ∀ n, n < B → P n → P (n + 1)) : P B := by
  have h : ∀ n, n ≤ B → P n := by
    intro n
    induction n with
    | zero => exact fun _ => h0
    | succ n ih => exact fun h => hs n (by omega) (ih (by omega))
  exact h B (Nat.le_refl B)
/-- a loop's numbers: from 0 up, n times -/
def zfold {α : Type} (g : Nat → α → α) (x : α) : Nat → α
  | 0 => x
  | n + 1 => g n (zfold g x n)
theorem zr_fcmp {l : Launch} {D : va_G} {cy : Nat → ClassId} {own : String} {cc : ByteArray} {nL : Nat} {R : Room} {nm : String} {G : zJ} {κ : zκ} {f : zF} {ls : List (Nat × Value)} {pc : Nat} {st : List Value} (X : zX l D cy own cc nL R nm G) {x y : UInt32} {op : CmpOp} (d : decode cc pc = .ok (.fcmp op, 1)) (k : G κ f ls (pc + 1) (.int (Op.cmpValue (FP.fcmp x y) op) :: st)) : G κ f ls pc (.float y :: .float x :: st) := by
  obtain ⟨p, e, s, m, args, below, meth, c, Q, A, rfl, hx, hb, hml, hnm, hown, hts, hA, hK⟩ := X
  intro H locs arr hP hI hAl hS hl
  exact lv_fcmp hx hb d (k H locs arr hP hI hAl hS hl)
def eHutL (w : zW) (b : Nat) (v : Nat → Int32) : List Value := [.ref (w.2 (b + 1)), .ref (w.2 (b + 2)), .ref (w.2 (b + 3)), .ref (w.2 (b + 5)), .ref (w.2 (b + 6)), .int (v 0), .int (v 1), .int (v 2), .int (v 3), .int (v 4)]
abbrev eHut (w : zW) (b : Nat) (v : Nat → Int32) : va_E := .inr (2, eHutL w b v)
theorem eHut_set (w : zW) (b : Nat) (v : Nat → Int32) (x : Int32) : ∀ i, i < 5 → (eHutL w b v).set (5 + i) (.int x) = eHutL w b (upd v i x)
  | 0, _ => rfl
  | 1, _ => rfl
  | 2, _ => rfl
  | 3, _ => rfl
  | 4, _ => rfl
  | i + 5, h => absurd h (by omega)
abbrev eInts (cy : Nat → ClassId) (n : Nat) (a : Nat → Int32) : va_E := .inl (cy 0, n, .inl a)
abbrev eChars (cy : Nat → ClassId) (n : Nat) (a : Nat → Int32) : va_E := .inl (cy 1, n, .inl a)
abbrev eRefs (cy : Nat → ClassId) (b n : Nat) (a : Nat → Option Nat) : va_E := .inl (cy b, n, .inr (.inr (.inr (.inr a))))
/-- what a hut's cells hold: by their places (0 itself, 1 the row of mules, 2 the row of groups, 3 the shelf, 4 its row, 5 the ledger, 6 the settings, 7 to 10 the mules, 11 to 20 the groups); σ: the numbers, in the order of the reference's row; γ: which group object stands at a place -/
def zHut (w : zW) (cy : Nat → ClassId) (b : Nat) (γ : Nat → Nat) (σ : Nat → Int32) (o : Nat) : va_E := match o with
  | 0 => eHut w b σ
  | 1 => eRefs cy 2 4 (fun k => some (w.2 (b + (7 + k))))
  | 2 => eRefs cy 3 10 (fun k => some (w.2 (b + (11 + γ k))))
  | 3 => .inr (7, [.ref (w.2 (b + 4))])
  | 4 => eInts cy 21 (fun k => σ (115 + k))
  | 5 => eLedger (fun i => σ (5 + i))
  | 6 => eSett (fun i => σ (15 + i))
  | o + 7 => if o < 4 then eMule (fun i => σ (19 + 9 * o + i)) else eGroup (fun i => σ (55 + 6 * (o - 4) + i))
/-- the world f, but for the hut at b -/
def zPut (f : zF) (b : Nat) (h : Nat → va_E) : zF := fun t => if b ≤ t ∧ t < b + 21 then h (t - b) else f t
theorem zPut_in {f : zF} {b : Nat} {h : Nat → va_E} {o : Nat} (ho : o < 21) : zPut f b h (b + o) = h o := by
  unfold zPut
  rw [if_pos (by omega), Nat.add_sub_cancel_left]
theorem zPut_out {f : zF} {b : Nat} {h : Nat → va_E} {t : Nat} (ht : t < b ∨ b + 21 ≤ t) : zPut f b h t = f t := by
  unfold zPut
  rw [if_neg (by omega)]
theorem zPut_put {f : zF} {b : Nat} {h h' : Nat → va_E} : zPut (zPut f b h) b h' = zPut f b h' := by
  funext t
  unfold zPut
  split <;> rfl
theorem zPut_self {f : zF} {b : Nat} {h : Nat → va_E} (hh : ∀ o, o < 21 → f (b + o) = h o) : zPut f b h = f := by
  funext t
  unfold zPut
  split
  · rename_i q
    rw [← hh (t - b) (by omega)]
    congr 1
    omega
  · rfl
theorem zPut_up {f : zF} {b o : Nat} {h h' : Nat → va_E} {e : va_E} (ho : o < 21) (he : e = h' o) (hr : ∀ i, i < 21 → i ≠ o → h i = h' i) : va_up (zPut f b h) (b + o) e = zPut f b h' := by
  funext t
  unfold va_up zPut
  by_cases h1 : t = b + o
  · rw [if_pos h1, if_pos (by omega), he, h1, Nat.add_sub_cancel_left]
  · rw [if_neg h1]
    by_cases h2 : b ≤ t ∧ t < b + 21
    · rw [if_pos h2, if_pos h2]
      exact hr (t - b) (by omega) (by omega)
    · rw [if_neg h2, if_neg h2]
/-- a stretch of numbers -/
def setR (σ : Nat → Int32) (a n : Nat) (v : Nat → Int32) : Nat → Int32 := fun i => if a ≤ i ∧ i < a + n then v (i - a) else σ i
theorem setR_in {σ : Nat → Int32} {a n : Nat} {v : Nat → Int32} {i : Nat} (h : i < n) : setR σ a n v (a + i) = v i := by
  unfold setR
  rw [if_pos (by omega), Nat.add_sub_cancel_left]
theorem setR_out {σ : Nat → Int32} {a n : Nat} {v : Nat → Int32} {i : Nat} (h : i < a ∨ a + n ≤ i) : setR σ a n v i = σ i := by
  unfold setR
  rw [if_neg (by omega)]
theorem upd_ne {σ : Nat → Int32} {k i : Nat} {x : Int32} (h : i ≠ k) : upd σ k x i = σ i := by
  unfold upd
  rw [if_neg h]
theorem upd_eq {σ : Nat → Int32} {k : Nat} {x : Int32} : upd σ k x k = x := by
  unfold upd
  rw [if_pos rfl]
theorem upd_at {σ : Nat → Int32} {a k i : Nat} {x : Int32} : upd (fun j => σ (a + j)) k x i = upd σ (a + k) x (a + i) := by
  unfold upd
  by_cases h : i = k
  · rw [if_pos h, if_pos (by omega)]
  · rw [if_neg h, if_neg (by omega)]
section ZH
variable {w : zW} {cy : Nat → ClassId} {b : Nat} {γ γ' : Nat → Nat} {σ σ' : Nat → Int32} {f : zF}
theorem zHut_mule {k : Nat} (hk : k < 4) : zHut w cy b γ σ (7 + k) = eMule (fun i => σ (19 + 9 * k + i)) := by
  rw [Nat.add_comm 7 k]
  show (if k < 4 then _ else _) = _
  rw [if_pos hk]
theorem zHut_group {k : Nat} : zHut w cy b γ σ (11 + k) = eGroup (fun i => σ (55 + 6 * k + i)) := by
  rw [show 11 + k = (k + 4) + 7 by omega]
  show (if k + 4 < 4 then eMule (fun i => σ (19 + 9 * (k + 4) + i)) else eGroup (fun i => σ (55 + 6 * (k + 4 - 4) + i))) = _
  rw [if_neg (by omega), show k + 4 - 4 = k by omega]
/-- two huts hold the same at a place, where the numbers are the same -/
theorem zHut_same {o : Nat} (ho : o < 21) (h0 : o = 0 → ∀ i, i < 5 → σ i = σ' i) (h2 : o = 2 → γ = γ') (h4 : o = 4 → (fun k => σ (115 + k)) = (fun k => σ' (115 + k))) (h5 : o = 5 → ∀ i, i < 10 → σ (5 + i) = σ' (5 + i)) (h6 : o = 6 → ∀ i, i < 4 → σ (15 + i) = σ' (15 + i)) (h7 : ∀ k, k < 4 → o = 7 + k → ∀ i, i < 9 → σ (19 + 9 * k + i) = σ' (19 + 9 * k + i)) (h8 : ∀ k, k < 10 → o = 11 + k → ∀ i, i < 6 → σ (55 + 6 * k + i) = σ' (55 + 6 * k + i)) : zHut w cy b γ σ o = zHut w cy b γ' σ' o := by
  match o, ho with
  | 0, _ =>
    show eHut w b σ = eHut w b σ'
    simp only [eHut, eHutL, h0 rfl 0 (by decide), h0 rfl 1 (by decide), h0 rfl 2 (by decide), h0 rfl 3 (by decide), h0 rfl 4 (by decide)]
  | 1, _ => rfl
  | 2, _ => rw [h2 rfl]; rfl
  | 3, _ => rfl
  | 4, _ =>
    show eInts cy 21 (fun k => σ (115 + k)) = eInts cy 21 (fun k => σ' (115 + k))
    rw [h4 rfl]
  | 5, _ => exact eLedger_congr (h5 rfl)
  | 6, _ => exact eSett_congr (h6 rfl)
  | o + 7, ho =>
    by_cases hk : o < 4
    · rw [Nat.add_comm o 7, zHut_mule hk, zHut_mule hk]
      exact eMule_congr (h7 o hk (by omega))
    · rw [show o + 7 = 11 + (o - 4) by omega, zHut_group, zHut_group]
      exact eGroup_congr (h8 (o - 4) (by omega) (by omega))
/-- the shelf's row, and what lies behind it -/
def setA (σ : Nat → Int32) (a : Nat → Int32) : Nat → Int32 := fun i => if 115 ≤ i then a (i - 115) else σ i
theorem setA_lo {σ a : Nat → Int32} {i : Nat} (h : i < 115) : setA σ a i = σ i := by
  unfold setA
  rw [if_neg (by omega)]
theorem setA_hi {σ a : Nat → Int32} {i : Nat} : setA σ a (115 + i) = a i := by
  unfold setA
  rw [if_pos (by omega), Nat.add_sub_cancel_left]
theorem zu_hut {i : Nat} {x : Int32} (hi : i < 5) : va_up (zPut f b (zHut w cy b γ σ)) b (eHut w b (upd σ i x)) = zPut f b (zHut w cy b γ (upd σ i x)) := by
  refine zPut_up (o := 0) (by decide) rfl (fun o ho hne => zHut_same ho (fun e => absurd e hne) (fun _ => rfl) (fun _ => funext fun k => (upd_ne (by omega)).symm) (fun _ j hj => (upd_ne (by omega)).symm) (fun _ j hj => (upd_ne (by omega)).symm) (fun k hk e j hj => (upd_ne (by omega)).symm) (fun k hk e j hj => (upd_ne (by omega)).symm))
theorem zu_ledger {i : Nat} {x : Int32} (hi : i < 10) : va_up (zPut f b (zHut w cy b γ σ)) (b + 5) (eLedger (upd (fun j => σ (5 + j)) i x)) = zPut f b (zHut w cy b γ (upd σ (5 + i) x)) := by
  refine zPut_up (o := 5) (by decide) (eLedger_congr (fun j _ => upd_at)) (fun o ho hne => zHut_same ho (fun _ j hj => ?_) (fun _ => rfl) (fun _ => funext fun k => ?_) (fun e => absurd e hne) (fun _ j hj => ?_) (fun k hk e j hj => ?_) (fun k hk e j hj => ?_)) <;> exact (upd_ne (by omega)).symm
theorem zu_sett {i : Nat} {x : Int32} (hi : i < 4) : va_up (zPut f b (zHut w cy b γ σ)) (b + 6) (eSett (upd (fun j => σ (15 + j)) i x)) = zPut f b (zHut w cy b γ (upd σ (15 + i) x)) := by
  refine zPut_up (o := 6) (by decide) (eSett_congr (fun j _ => upd_at)) (fun o ho hne => zHut_same ho (fun _ j hj => ?_) (fun _ => rfl) (fun _ => funext fun k => ?_) (fun _ j hj => ?_) (fun e => absurd e hne) (fun k hk e j hj => ?_) (fun k hk e j hj => ?_)) <;> exact (upd_ne (by omega)).symm
theorem zu_muleF {k i : Nat} {x : Int32} (hk : k < 4) (hi : i < 9) : va_up (zPut f b (zHut w cy b γ σ)) (b + (7 + k)) (eMule (upd (fun j => σ (19 + 9 * k + j)) i x)) = zPut f b (zHut w cy b γ (upd σ (19 + 9 * k + i) x)) := by
  refine zPut_up (o := 7 + k) (by omega) ((eMule_congr (fun j _ => upd_at)).trans (zHut_mule hk).symm) (fun o ho hne => zHut_same ho (fun _ j hj => ?_) (fun _ => rfl) (fun _ => funext fun k => ?_) (fun _ j hj => ?_) (fun _ j hj => ?_) (fun k hk e j hj => ?_) (fun k hk e j hj => ?_)) <;> exact (upd_ne (by omega)).symm
theorem zu_groupF {k i : Nat} {x : Int32} (hk : k < 10) (hi : i < 6) : va_up (zPut f b (zHut w cy b γ σ)) (b + (11 + k)) (eGroup (upd (fun j => σ (55 + 6 * k + j)) i x)) = zPut f b (zHut w cy b γ (upd σ (55 + 6 * k + i) x)) := by
  refine zPut_up (o := 11 + k) (by omega) ((eGroup_congr (fun j _ => upd_at)).trans zHut_group.symm) (fun o ho hne => zHut_same ho (fun _ j hj => ?_) (fun _ => rfl) (fun _ => funext fun k => ?_) (fun _ j hj => ?_) (fun _ j hj => ?_) (fun k hk e j hj => ?_) (fun k hk e j hj => ?_)) <;> exact (upd_ne (by omega)).symm
theorem zu_mule {k : Nat} {v : Nat → Int32} (hk : k < 4) : va_up (zPut f b (zHut w cy b γ σ)) (b + (7 + k)) (eMule v) = zPut f b (zHut w cy b γ (setR σ (19 + 9 * k) 9 v)) := by
  refine zPut_up (o := 7 + k) (by omega) ((eMule_congr (fun j hj => (setR_in hj).symm)).trans (zHut_mule hk).symm) (fun o ho hne => zHut_same ho (fun _ j hj => ?_) (fun _ => rfl) (fun _ => funext fun k => ?_) (fun _ j hj => ?_) (fun _ j hj => ?_) (fun k hk e j hj => ?_) (fun k hk e j hj => ?_)) <;> exact (setR_out (by omega)).symm
theorem zu_group {k : Nat} {v : Nat → Int32} (hk : k < 10) : va_up (zPut f b (zHut w cy b γ σ)) (b + (11 + k)) (eGroup v) = zPut f b (zHut w cy b γ (setR σ (55 + 6 * k) 6 v)) := by
  refine zPut_up (o := 11 + k) (by omega) ((eGroup_congr (fun j hj => (setR_in hj).symm)).trans zHut_group.symm) (fun o ho hne => zHut_same ho (fun _ j hj => ?_) (fun _ => rfl) (fun _ => funext fun k => ?_) (fun _ j hj => ?_) (fun _ j hj => ?_) (fun k hk e j hj => ?_) (fun k hk e j hj => ?_)) <;> exact (setR_out (by omega)).symm
theorem zu_ledgerA {v : Nat → Int32} : va_up (zPut f b (zHut w cy b γ σ)) (b + 5) (eLedger v) = zPut f b (zHut w cy b γ (setR σ 5 10 v)) := by
  refine zPut_up (o := 5) (by decide) (eLedger_congr (fun j hj => (setR_in hj).symm)) (fun o ho hne => zHut_same ho (fun _ j hj => ?_) (fun _ => rfl) (fun _ => funext fun k => ?_) (fun e => absurd e hne) (fun _ j hj => ?_) (fun k hk e j hj => ?_) (fun k hk e j hj => ?_)) <;> exact (setR_out (by omega)).symm
theorem zu_settA {v : Nat → Int32} : va_up (zPut f b (zHut w cy b γ σ)) (b + 6) (eSett v) = zPut f b (zHut w cy b γ (setR σ 15 4 v)) := by
  refine zPut_up (o := 6) (by decide) (eSett_congr (fun j hj => (setR_in hj).symm)) (fun o ho hne => zHut_same ho (fun _ j hj => ?_) (fun _ => rfl) (fun _ => funext fun k => ?_) (fun _ j hj => ?_) (fun e => absurd e hne) (fun k hk e j hj => ?_) (fun k hk e j hj => ?_)) <;> exact (setR_out (by omega)).symm
theorem zu_shelf {a : Nat → Int32} : va_up (zPut f b (zHut w cy b γ σ)) (b + 4) (eInts cy 21 a) = zPut f b (zHut w cy b γ (setA σ a)) := by
  refine zPut_up (o := 4) (by decide) (congrArg (eInts cy 21) (funext fun k => setA_hi.symm)) (fun o ho hne => zHut_same ho (fun _ j hj => ?_) (fun _ => rfl) (fun e => absurd e hne) (fun _ j hj => ?_) (fun _ j hj => ?_) (fun k hk e j hj => ?_) (fun k hk e j hj => ?_)) <;> exact (setA_lo (by omega)).symm
theorem zu_groups : va_up (zPut f b (zHut w cy b γ σ)) (b + 2) (eRefs cy 3 10 (fun k => some (w.2 (b + (11 + γ' k))))) = zPut f b (zHut w cy b γ' σ) :=
  zPut_up (o := 2) (by decide) rfl (fun o ho hne => zHut_same ho (fun _ j hj => rfl) (fun e => absurd e hne) (fun _ => rfl) (fun _ j hj => rfl) (fun _ j hj => rfl) (fun k hk e j hj => rfl) (fun k hk e j hj => rfl))
end ZH
theorem zjoin {G : zJ} {κ : zκ} {f f2 : zF} {ls ls2 : List (Nat × Value)} {pc : Nat} {st st2 : List Value} (h : f2 = f) (hl : ls2 = ls) (hs : st2 = st) (k : G κ f2 ls2 pc st2) : G κ f ls pc st := h ▸ hl ▸ hs ▸ k
theorem zpr_of (n : Nat) : nI n - 1 = zpr n := by
  cases n with
  | zero => decide
  | succ n => exact nI_pred n
theorem zcw {G : zJ} {κ : zκ} {f f2 : zF} {ls : List (Nat × Value)} {pc : Nat} {st : List Value} (h : f = f2) (k : G κ f2 ls pc st) : G κ f ls pc st := h ▸ k
end
section
def mBegin (v : Nat → Int32) (a b : Int32) : Nat → Int32 := upd (upd (upd (upd (upd (upd (upd (upd (upd v 0 a) 1 b) 2 0) 3 0) 4 0) 5 0) 6 0) 7 0) 8 0
set_option maxHeartbeats 4000000 in
set_option maxRecDepth 100000 in
theorem k_Mule_begin {l : Launch} {D : va_G} {cy : Nat → ClassId} {w : zW} {f : zF} {t : Nat} {v : Nat → Int32} {a : Int32} {b : Int32} (ht : t < w.1) (hf : f t = eMule v)  : zSd l D cy yX4_begin cX4_begin 3 none 0 0 [.ref (w.2 (t)), .int (a), .int (b)] w f none (va_up f t (eMule (mBegin v a b))) := by
  refine zSd.intro (by decide) (Nat.le_of_ble_eq_true rfl) (fun G X E => ?_)
  show G (w, 0, 0) f [(0, .ref (w.2 (t))), (1, .int (a)), (2, .int (b))] 0 []
  refine zr_aload_n X 0 dX4_begin_0 rfl rfl ?_
  refine zr_iload_n X 1 dX4_begin_1 rfl rfl ?_
  refine zr_put X zfd_RX4_9 zty_4_0 (t) ht hf rfl rfl (Nat.le_of_ble_eq_true rfl) (eMule_set _ _ 0 (by decide)) dX4_begin_2 ?_
  refine zr_aload_n X 0 dX4_begin_5 rfl rfl ?_
  refine zr_iload_n X 2 dX4_begin_6 rfl rfl ?_
  refine zr_put X zfd_RX4_15 zty_4_1 (t) ht (va_up_self _ _ _) rfl rfl (Nat.le_of_ble_eq_true rfl) (eMule_set _ _ 1 (by decide)) dX4_begin_7 ?_
  rw [va_up_up]
  refine zr_aload_n X 0 dX4_begin_10 rfl rfl ?_
  refine zr_iconst X (v := 0) dX4_begin_11 (by decide) ?_
  refine zr_put X zfd_RX4_18 zty_4_2 (t) ht (va_up_self _ _ _) rfl rfl (Nat.le_of_ble_eq_true rfl) (eMule_set _ _ 2 (by decide)) dX4_begin_12 ?_
  rw [va_up_up]
  refine zr_aload_n X 0 dX4_begin_15 rfl rfl ?_
  refine zr_iconst X (v := 0) dX4_begin_16 (by decide) ?_
  refine zr_put X zfd_RX4_21 zty_4_3 (t) ht (va_up_self _ _ _) rfl rfl (Nat.le_of_ble_eq_true rfl) (eMule_set _ _ 3 (by decide)) dX4_begin_17 ?_
  rw [va_up_up]
  refine zr_aload_n X 0 dX4_begin_20 rfl rfl ?_
  refine zr_iconst X (v := 0) dX4_begin_21 (by decide) ?_
  refine zr_put X zfd_RX4_24 zty_4_4 (t) ht (va_up_self _ _ _) rfl rfl (Nat.le_of_ble_eq_true rfl) (eMule_set _ _ 4 (by decide)) dX4_begin_22 ?_
  rw [va_up_up]
  refine zr_aload_n X 0 dX4_begin_25 rfl rfl ?_
  refine zr_iconst X (v := 0) dX4_begin_26 (by decide) ?_
  refine zr_put X zfd_RX4_27 zty_4_5 (t) ht (va_up_self _ _ _) rfl rfl (Nat.le_of_ble_eq_true rfl) (eMule_set _ _ 5 (by decide)) dX4_begin_27 ?_
  rw [va_up_up]
  refine zr_aload_n X 0 dX4_begin_30 rfl rfl ?_
  refine zr_iconst X (v := 0) dX4_begin_31 (by decide) ?_
  refine zr_put X zfd_RX4_30 zty_4_6 (t) ht (va_up_self _ _ _) rfl rfl (Nat.le_of_ble_eq_true rfl) (eMule_set _ _ 6 (by decide)) dX4_begin_32 ?_
  rw [va_up_up]
  refine zr_aload_n X 0 dX4_begin_35 rfl rfl ?_
  refine zr_iconst X (v := 0) dX4_begin_36 (by decide) ?_
  refine zr_put X zfd_RX4_33 zty_4_7 (t) ht (va_up_self _ _ _) rfl rfl (Nat.le_of_ble_eq_true rfl) (eMule_set _ _ 7 (by decide)) dX4_begin_37 ?_
  rw [va_up_up]
  refine zr_aload_n X 0 dX4_begin_40 rfl rfl ?_
  refine zr_iconst X (v := 0) dX4_begin_41 (by decide) ?_
  refine zr_put X zfd_RX4_36 zty_4_8 (t) ht (va_up_self _ _ _) rfl rfl (Nat.le_of_ble_eq_true rfl) (eMule_set _ _ 8 (by decide)) dX4_begin_42 ?_
  rw [va_up_up]
  exact zret_v E rfl dX4_begin_45 rfl
def mLeave (v : Nat → Int32) (n d : Int32) : Nat → Int32 := upd (upd (upd (upd (upd v 2 1) 3 2) 4 n) 5 d) 6 (v 6 + 1)
set_option maxHeartbeats 4000000 in
set_option maxRecDepth 100000 in
theorem k_Mule_leave {l : Launch} {D : va_G} {cy : Nat → ClassId} {w : zW} {f : zF} {t : Nat} {v : Nat → Int32} {n : Int32} {d : Int32} (ht : t < w.1) (hf : f t = eMule v)  : zSd l D cy yX4_leave cX4_leave 3 none 0 0 [.ref (w.2 (t)), .int (n), .int (d)] w f none (va_up f t (eMule (mLeave v n d))) := by
  refine zSd.intro (by decide) (Nat.le_of_ble_eq_true rfl) (fun G X E => ?_)
  show G (w, 0, 0) f [(0, .ref (w.2 (t))), (1, .int (n)), (2, .int (d))] 0 []
  refine zr_aload_n X 0 dX4_leave_0 rfl rfl ?_
  refine zr_iconst X (v := 1) dX4_leave_1 (by decide) ?_
  refine zr_put X zfd_RX4_18 zty_4_2 (t) ht hf rfl rfl (Nat.le_of_ble_eq_true rfl) (eMule_set _ _ 2 (by decide)) dX4_leave_2 ?_
  refine zr_aload_n X 0 dX4_leave_5 rfl rfl ?_
  refine zr_iconst X (v := 2) dX4_leave_6 (by decide) ?_
  refine zr_put X zfd_RX4_21 zty_4_3 (t) ht (va_up_self _ _ _) rfl rfl (Nat.le_of_ble_eq_true rfl) (eMule_set _ _ 3 (by decide)) dX4_leave_7 ?_
  rw [va_up_up]
  refine zr_aload_n X 0 dX4_leave_10 rfl rfl ?_
  refine zr_iload_n X 1 dX4_leave_11 rfl rfl ?_
  refine zr_put X zfd_RX4_24 zty_4_4 (t) ht (va_up_self _ _ _) rfl rfl (Nat.le_of_ble_eq_true rfl) (eMule_set _ _ 4 (by decide)) dX4_leave_12 ?_
  rw [va_up_up]
  refine zr_aload_n X 0 dX4_leave_15 rfl rfl ?_
  refine zr_iload_n X 2 dX4_leave_16 rfl rfl ?_
  refine zr_put X zfd_RX4_27 zty_4_5 (t) ht (va_up_self _ _ _) rfl rfl (Nat.le_of_ble_eq_true rfl) (eMule_set _ _ 5 (by decide)) dX4_leave_17 ?_
  rw [va_up_up]
  refine zr_aload_n X 0 dX4_leave_20 rfl rfl ?_
  refine zr_dup X dX4_leave_21 rfl ?_
  refine zr_get X zfd_RX4_30 (t) ht (va_up_self _ _ _) (v := .int (v 6)) rfl dX4_leave_22 ?_
  refine zr_iconst X (v := 1) dX4_leave_25 (by decide) ?_
  refine zr_iadd X dX4_leave_26 ?_
  refine zr_put X zfd_RX4_30 zty_4_6 (t) ht (va_up_self _ _ _) rfl rfl (Nat.le_of_ble_eq_true rfl) (eMule_set _ _ 6 (by decide)) dX4_leave_27 ?_
  rw [va_up_up]
  exact zret_v E rfl dX4_leave_30 rfl
def mComeOnC (v : Nat → Int32) : (Nat → Int32) × Int32 := if v 2 = 3 then (upd (upd (upd v 3 (v 3 - 1)) 6 0) 2 0, 0) else (upd (upd v 3 (v 3 - 1)) 2 0, 0)
def mComeOnB (v : Nat → Int32) : (Nat → Int32) × Int32 := if v 3 - 1 ≤ 0 then (if v 2 = 1 then (upd (upd (upd v 3 (v 3 - 1)) 2 2) 3 2, 1) else if v 2 = 2 then (if v 6 < v 1 then mComeOnC v else (upd (upd (upd (upd v 3 (v 3 - 1)) 2 3) 3 5) 8 (v 8 + 1), 0)) else mComeOnC v) else (upd v 3 (v 3 - 1), 0)
def mComeOn (v : Nat → Int32) (s : Int32) : (Nat → Int32) × Int32 := if v 2 = 0 then (v, 0) else if s = 0 then mComeOnB v else if v 2 = 3 then mComeOnB v else (v, 0)
theorem zsame_up {f : zF} {t : Nat} {e : va_E} (h : f t = e) : ∀ {e' : va_E}, e = e' → f = va_up f t e' := by
  intro e' he
  funext j
  unfold va_up
  by_cases hj : j = t
  · rw [if_pos hj, hj, h, he]
  · rw [if_neg hj]
set_option maxHeartbeats 4000000 in
set_option maxRecDepth 100000 in
theorem k_Mule_comeOn {l : Launch} {D : va_G} {cy : Nat → ClassId} {w : zW} {f : zF} {t : Nat} {v : Nat → Int32} {s : Int32} (ht : t < w.1) (hf : f t = eMule v)  : zSd l D cy yX4_comeOn cX4_comeOn 2 (some .boolean) 0 0 [.ref (w.2 (t)), .int (s)] w f (some (.int ((mComeOn v s).2))) (va_up f t (eMule (mComeOn v s).1)) := by
  refine zSd.intro (by decide) (Nat.le_of_ble_eq_true rfl) (fun G X E => ?_)
  show G (w, 0, 0) f [(0, .ref (w.2 (t))), (1, .int (s))] 0 []
  refine zr_aload_n X 0 dX4_comeOn_0 rfl rfl ?_
  refine zr_get X zfd_RX4_18 (t) ht hf (v := .int (v 2)) rfl dX4_comeOn_1 ?_
  refine zr_if_eq X (tgt := 19) dX4_comeOn_4 (by decide) (fun h1 => ?_) (fun h2 => ?_)
  · refine zr_iconst X (v := 0) dX4_comeOn_19 (by decide) ?_
    exact zret_z E rfl (Or.inl rfl) dX4_comeOn_20 (by simp only [mComeOn, mComeOnB, mComeOnC, if_pos h1]) (zsame_up hf (by simp only [mComeOn, mComeOnB, mComeOnC, if_pos h1]))
  · refine zr_iload_n X 1 dX4_comeOn_7 rfl rfl ?_
    refine zr_if_eq X (tgt := 21) dX4_comeOn_8 (by decide) (fun h3 => ?_) (fun h4 => ?_)
    · refine zr_aload_n X 0 dX4_comeOn_21 rfl rfl ?_
      refine zr_dup X dX4_comeOn_22 rfl ?_
      refine zr_get X zfd_RX4_21 (t) ht hf (v := .int (v 3)) rfl dX4_comeOn_23 ?_
      refine zr_iconst X (v := 1) dX4_comeOn_26 (by decide) ?_
      refine zr_isub X dX4_comeOn_27 ?_
      refine zr_put X zfd_RX4_21 zty_4_3 (t) ht hf rfl rfl (Nat.le_of_ble_eq_true rfl) (eMule_set _ _ 3 (by decide)) dX4_comeOn_28 ?_
      refine zr_aload_n X 0 dX4_comeOn_31 rfl rfl ?_
      refine zr_get X zfd_RX4_21 (t) ht (va_up_self _ _ _) (v := .int ((v 3) - 1)) rfl dX4_comeOn_32 ?_
      refine zr_if_le X (tgt := 40) dX4_comeOn_35 (by decide) (fun h5 => ?_) (fun h6 => ?_)
      · refine zr_aload_n X 0 dX4_comeOn_40 rfl rfl ?_
        refine zr_get X zfd_RX4_18 (t) ht (va_up_self _ _ _) (v := .int (v 2)) rfl dX4_comeOn_41 ?_
        refine zr_iconst X (v := 1) dX4_comeOn_44 (by decide) ?_
        refine zr_icmp_ne X (tgt := 60) dX4_comeOn_45 (by decide) (fun h7 => ?_) (fun h8 => ?_)
        · refine zr_aload_n X 0 dX4_comeOn_60 rfl rfl ?_
          refine zr_get X zfd_RX4_18 (t) ht (va_up_self _ _ _) (v := .int (v 2)) rfl dX4_comeOn_61 ?_
          refine zr_iconst X (v := 2) dX4_comeOn_64 (by decide) ?_
          refine zr_icmp_ne X (tgt := 101) dX4_comeOn_65 (by decide) (fun h9 => ?_) (fun h10 => ?_)
          · refine zr_aload_n X 0 dX4_comeOn_101 rfl rfl ?_
            refine zr_get X zfd_RX4_18 (t) ht (va_up_self _ _ _) (v := .int (v 2)) rfl dX4_comeOn_102 ?_
            refine zr_iconst X (v := 3) dX4_comeOn_105 (by decide) ?_
            refine zr_icmp_ne X (tgt := 114) dX4_comeOn_106 (by decide) (fun h11 => ?_) (fun h12 => ?_)
            · refine zr_aload_n X 0 dX4_comeOn_114 rfl rfl ?_
              refine zr_iconst X (v := 0) dX4_comeOn_115 (by decide) ?_
              refine zr_put X zfd_RX4_18 zty_4_2 (t) ht (va_up_self _ _ _) rfl rfl (Nat.le_of_ble_eq_true rfl) (eMule_set _ _ 2 (by decide)) dX4_comeOn_116 ?_
              rw [va_up_up]
              refine zr_iconst X (v := 0) dX4_comeOn_119 (by decide) ?_
              exact zret_z E rfl (Or.inl rfl) dX4_comeOn_120 (by simp only [mComeOn, mComeOnB, mComeOnC, if_neg h2, if_pos h3, if_pos h5, if_neg h7, if_neg h9, if_neg h11]) (by simp only [mComeOn, mComeOnB, mComeOnC, if_neg h2, if_pos h3, if_pos h5, if_neg h7, if_neg h9, if_neg h11])
            · refine zr_aload_n X 0 dX4_comeOn_109 rfl rfl ?_
              refine zr_iconst X (v := 0) dX4_comeOn_110 (by decide) ?_
              refine zr_put X zfd_RX4_30 zty_4_6 (t) ht (va_up_self _ _ _) rfl rfl (Nat.le_of_ble_eq_true rfl) (eMule_set _ _ 6 (by decide)) dX4_comeOn_111 ?_
              rw [va_up_up]
              refine zr_aload_n X 0 dX4_comeOn_114 rfl rfl ?_
              refine zr_iconst X (v := 0) dX4_comeOn_115 (by decide) ?_
              refine zr_put X zfd_RX4_18 zty_4_2 (t) ht (va_up_self _ _ _) rfl rfl (Nat.le_of_ble_eq_true rfl) (eMule_set _ _ 2 (by decide)) dX4_comeOn_116 ?_
              rw [va_up_up]
              refine zr_iconst X (v := 0) dX4_comeOn_119 (by decide) ?_
              exact zret_z E rfl (Or.inl rfl) dX4_comeOn_120 (by simp only [mComeOn, mComeOnB, mComeOnC, if_neg h2, if_pos h3, if_pos h5, if_neg h7, if_neg h9, if_pos h12]) (by simp only [mComeOn, mComeOnB, mComeOnC, if_neg h2, if_pos h3, if_pos h5, if_neg h7, if_neg h9, if_pos h12])
          · refine zr_aload_n X 0 dX4_comeOn_68 rfl rfl ?_
            refine zr_get X zfd_RX4_30 (t) ht (va_up_self _ _ _) (v := .int (v 6)) rfl dX4_comeOn_69 ?_
            refine zr_aload_n X 0 dX4_comeOn_72 rfl rfl ?_
            refine zr_get X zfd_RX4_15 (t) ht (va_up_self _ _ _) (v := .int (v 1)) rfl dX4_comeOn_73 ?_
            refine zr_icmp_lt X (tgt := 101) dX4_comeOn_76 (by decide) (fun h13 => ?_) (fun h14 => ?_)
            · refine zr_aload_n X 0 dX4_comeOn_101 rfl rfl ?_
              refine zr_get X zfd_RX4_18 (t) ht (va_up_self _ _ _) (v := .int (v 2)) rfl dX4_comeOn_102 ?_
              refine zr_iconst X (v := 3) dX4_comeOn_105 (by decide) ?_
              refine zr_icmp_ne X (tgt := 114) dX4_comeOn_106 (by decide) (fun h15 => ?_) (fun h16 => ?_)
              · refine zr_aload_n X 0 dX4_comeOn_114 rfl rfl ?_
                refine zr_iconst X (v := 0) dX4_comeOn_115 (by decide) ?_
                refine zr_put X zfd_RX4_18 zty_4_2 (t) ht (va_up_self _ _ _) rfl rfl (Nat.le_of_ble_eq_true rfl) (eMule_set _ _ 2 (by decide)) dX4_comeOn_116 ?_
                rw [va_up_up]
                refine zr_iconst X (v := 0) dX4_comeOn_119 (by decide) ?_
                exact zret_z E rfl (Or.inl rfl) dX4_comeOn_120 (by simp only [mComeOn, mComeOnB, mComeOnC, if_neg h2, if_pos h3, if_pos h5, if_neg h7, if_pos h10, if_pos h13, if_neg h15]) (by simp only [mComeOn, mComeOnB, mComeOnC, if_neg h2, if_pos h3, if_pos h5, if_neg h7, if_pos h10, if_pos h13, if_neg h15])
              · refine zr_aload_n X 0 dX4_comeOn_109 rfl rfl ?_
                refine zr_iconst X (v := 0) dX4_comeOn_110 (by decide) ?_
                refine zr_put X zfd_RX4_30 zty_4_6 (t) ht (va_up_self _ _ _) rfl rfl (Nat.le_of_ble_eq_true rfl) (eMule_set _ _ 6 (by decide)) dX4_comeOn_111 ?_
                rw [va_up_up]
                refine zr_aload_n X 0 dX4_comeOn_114 rfl rfl ?_
                refine zr_iconst X (v := 0) dX4_comeOn_115 (by decide) ?_
                refine zr_put X zfd_RX4_18 zty_4_2 (t) ht (va_up_self _ _ _) rfl rfl (Nat.le_of_ble_eq_true rfl) (eMule_set _ _ 2 (by decide)) dX4_comeOn_116 ?_
                rw [va_up_up]
                refine zr_iconst X (v := 0) dX4_comeOn_119 (by decide) ?_
                exact zret_z E rfl (Or.inl rfl) dX4_comeOn_120 (by simp only [mComeOn, mComeOnB, mComeOnC, if_neg h2, if_pos h3, if_pos h5, if_neg h7, if_pos h10, if_pos h13, if_pos h16]) (by simp only [mComeOn, mComeOnB, mComeOnC, if_neg h2, if_pos h3, if_pos h5, if_neg h7, if_pos h10, if_pos h13, if_pos h16])
            · refine zr_aload_n X 0 dX4_comeOn_79 rfl rfl ?_
              refine zr_iconst X (v := 3) dX4_comeOn_80 (by decide) ?_
              refine zr_put X zfd_RX4_18 zty_4_2 (t) ht (va_up_self _ _ _) rfl rfl (Nat.le_of_ble_eq_true rfl) (eMule_set _ _ 2 (by decide)) dX4_comeOn_81 ?_
              rw [va_up_up]
              refine zr_aload_n X 0 dX4_comeOn_84 rfl rfl ?_
              refine zr_iconst X (v := 5) dX4_comeOn_85 (by decide) ?_
              refine zr_put X zfd_RX4_21 zty_4_3 (t) ht (va_up_self _ _ _) rfl rfl (Nat.le_of_ble_eq_true rfl) (eMule_set _ _ 3 (by decide)) dX4_comeOn_86 ?_
              rw [va_up_up]
              refine zr_aload_n X 0 dX4_comeOn_89 rfl rfl ?_
              refine zr_dup X dX4_comeOn_90 rfl ?_
              refine zr_get X zfd_RX4_36 (t) ht (va_up_self _ _ _) (v := .int (v 8)) rfl dX4_comeOn_91 ?_
              refine zr_iconst X (v := 1) dX4_comeOn_94 (by decide) ?_
              refine zr_iadd X dX4_comeOn_95 ?_
              refine zr_put X zfd_RX4_36 zty_4_8 (t) ht (va_up_self _ _ _) rfl rfl (Nat.le_of_ble_eq_true rfl) (eMule_set _ _ 8 (by decide)) dX4_comeOn_96 ?_
              rw [va_up_up]
              refine zr_iconst X (v := 0) dX4_comeOn_99 (by decide) ?_
              exact zret_z E rfl (Or.inl rfl) dX4_comeOn_100 (by simp only [mComeOn, mComeOnB, mComeOnC, if_neg h2, if_pos h3, if_pos h5, if_neg h7, if_pos h10, if_neg h14]) (by simp only [mComeOn, mComeOnB, mComeOnC, if_neg h2, if_pos h3, if_pos h5, if_neg h7, if_pos h10, if_neg h14])
        · refine zr_aload_n X 0 dX4_comeOn_48 rfl rfl ?_
          refine zr_iconst X (v := 2) dX4_comeOn_49 (by decide) ?_
          refine zr_put X zfd_RX4_18 zty_4_2 (t) ht (va_up_self _ _ _) rfl rfl (Nat.le_of_ble_eq_true rfl) (eMule_set _ _ 2 (by decide)) dX4_comeOn_50 ?_
          rw [va_up_up]
          refine zr_aload_n X 0 dX4_comeOn_53 rfl rfl ?_
          refine zr_iconst X (v := 2) dX4_comeOn_54 (by decide) ?_
          refine zr_put X zfd_RX4_21 zty_4_3 (t) ht (va_up_self _ _ _) rfl rfl (Nat.le_of_ble_eq_true rfl) (eMule_set _ _ 3 (by decide)) dX4_comeOn_55 ?_
          rw [va_up_up]
          refine zr_iconst X (v := 1) dX4_comeOn_58 (by decide) ?_
          exact zret_z E rfl (Or.inr rfl) dX4_comeOn_59 (by simp only [mComeOn, mComeOnB, mComeOnC, if_neg h2, if_pos h3, if_pos h5, if_pos h8]) (by simp only [mComeOn, mComeOnB, mComeOnC, if_neg h2, if_pos h3, if_pos h5, if_pos h8])
      · refine zr_iconst X (v := 0) dX4_comeOn_38 (by decide) ?_
        exact zret_z E rfl (Or.inl rfl) dX4_comeOn_39 (by simp only [mComeOn, mComeOnB, mComeOnC, if_neg h2, if_pos h3, if_neg h6]) (by simp only [mComeOn, mComeOnB, mComeOnC, if_neg h2, if_pos h3, if_neg h6])
    · refine zr_aload_n X 0 dX4_comeOn_11 rfl rfl ?_
      refine zr_get X zfd_RX4_18 (t) ht hf (v := .int (v 2)) rfl dX4_comeOn_12 ?_
      refine zr_iconst X (v := 3) dX4_comeOn_15 (by decide) ?_
      refine zr_icmp_eq X (tgt := 21) dX4_comeOn_16 (by decide) (fun h17 => ?_) (fun h18 => ?_)
      · refine zr_aload_n X 0 dX4_comeOn_21 rfl rfl ?_
        refine zr_dup X dX4_comeOn_22 rfl ?_
        refine zr_get X zfd_RX4_21 (t) ht hf (v := .int (v 3)) rfl dX4_comeOn_23 ?_
        refine zr_iconst X (v := 1) dX4_comeOn_26 (by decide) ?_
        refine zr_isub X dX4_comeOn_27 ?_
        refine zr_put X zfd_RX4_21 zty_4_3 (t) ht hf rfl rfl (Nat.le_of_ble_eq_true rfl) (eMule_set _ _ 3 (by decide)) dX4_comeOn_28 ?_
        refine zr_aload_n X 0 dX4_comeOn_31 rfl rfl ?_
        refine zr_get X zfd_RX4_21 (t) ht (va_up_self _ _ _) (v := .int ((v 3) - 1)) rfl dX4_comeOn_32 ?_
        refine zr_if_le X (tgt := 40) dX4_comeOn_35 (by decide) (fun h19 => ?_) (fun h20 => ?_)
        · refine zr_aload_n X 0 dX4_comeOn_40 rfl rfl ?_
          refine zr_get X zfd_RX4_18 (t) ht (va_up_self _ _ _) (v := .int (v 2)) rfl dX4_comeOn_41 ?_
          refine zr_iconst X (v := 1) dX4_comeOn_44 (by decide) ?_
          refine zr_icmp_ne X (tgt := 60) dX4_comeOn_45 (by decide) (fun h21 => ?_) (fun h22 => ?_)
          · refine zr_aload_n X 0 dX4_comeOn_60 rfl rfl ?_
            refine zr_get X zfd_RX4_18 (t) ht (va_up_self _ _ _) (v := .int (v 2)) rfl dX4_comeOn_61 ?_
            refine zr_iconst X (v := 2) dX4_comeOn_64 (by decide) ?_
            refine zr_icmp_ne X (tgt := 101) dX4_comeOn_65 (by decide) (fun h23 => ?_) (fun h24 => ?_)
            · refine zr_aload_n X 0 dX4_comeOn_101 rfl rfl ?_
              refine zr_get X zfd_RX4_18 (t) ht (va_up_self _ _ _) (v := .int (v 2)) rfl dX4_comeOn_102 ?_
              refine zr_iconst X (v := 3) dX4_comeOn_105 (by decide) ?_
              refine zr_icmp_ne X (tgt := 114) dX4_comeOn_106 (by decide) (fun h25 => absurd h17 h25) (fun _ => ?_)
              refine zr_aload_n X 0 dX4_comeOn_109 rfl rfl ?_
              refine zr_iconst X (v := 0) dX4_comeOn_110 (by decide) ?_
              refine zr_put X zfd_RX4_30 zty_4_6 (t) ht (va_up_self _ _ _) rfl rfl (Nat.le_of_ble_eq_true rfl) (eMule_set _ _ 6 (by decide)) dX4_comeOn_111 ?_
              rw [va_up_up]
              refine zr_aload_n X 0 dX4_comeOn_114 rfl rfl ?_
              refine zr_iconst X (v := 0) dX4_comeOn_115 (by decide) ?_
              refine zr_put X zfd_RX4_18 zty_4_2 (t) ht (va_up_self _ _ _) rfl rfl (Nat.le_of_ble_eq_true rfl) (eMule_set _ _ 2 (by decide)) dX4_comeOn_116 ?_
              rw [va_up_up]
              refine zr_iconst X (v := 0) dX4_comeOn_119 (by decide) ?_
              exact zret_z E rfl (Or.inl rfl) dX4_comeOn_120 (by simp only [mComeOn, mComeOnB, mComeOnC, if_neg h2, if_neg h4, if_pos h17, if_pos h19, if_neg h21, if_neg h23]) (by simp only [mComeOn, mComeOnB, mComeOnC, if_neg h2, if_neg h4, if_pos h17, if_pos h19, if_neg h21, if_neg h23])
            · refine zr_aload_n X 0 dX4_comeOn_68 rfl rfl ?_
              refine zr_get X zfd_RX4_30 (t) ht (va_up_self _ _ _) (v := .int (v 6)) rfl dX4_comeOn_69 ?_
              refine zr_aload_n X 0 dX4_comeOn_72 rfl rfl ?_
              refine zr_get X zfd_RX4_15 (t) ht (va_up_self _ _ _) (v := .int (v 1)) rfl dX4_comeOn_73 ?_
              refine zr_icmp_lt X (tgt := 101) dX4_comeOn_76 (by decide) (fun h26 => ?_) (fun h27 => ?_)
              · refine zr_aload_n X 0 dX4_comeOn_101 rfl rfl ?_
                refine zr_get X zfd_RX4_18 (t) ht (va_up_self _ _ _) (v := .int (v 2)) rfl dX4_comeOn_102 ?_
                refine zr_iconst X (v := 3) dX4_comeOn_105 (by decide) ?_
                refine zr_icmp_ne X (tgt := 114) dX4_comeOn_106 (by decide) (fun h28 => absurd h17 h28) (fun _ => ?_)
                refine zr_aload_n X 0 dX4_comeOn_109 rfl rfl ?_
                refine zr_iconst X (v := 0) dX4_comeOn_110 (by decide) ?_
                refine zr_put X zfd_RX4_30 zty_4_6 (t) ht (va_up_self _ _ _) rfl rfl (Nat.le_of_ble_eq_true rfl) (eMule_set _ _ 6 (by decide)) dX4_comeOn_111 ?_
                rw [va_up_up]
                refine zr_aload_n X 0 dX4_comeOn_114 rfl rfl ?_
                refine zr_iconst X (v := 0) dX4_comeOn_115 (by decide) ?_
                refine zr_put X zfd_RX4_18 zty_4_2 (t) ht (va_up_self _ _ _) rfl rfl (Nat.le_of_ble_eq_true rfl) (eMule_set _ _ 2 (by decide)) dX4_comeOn_116 ?_
                rw [va_up_up]
                refine zr_iconst X (v := 0) dX4_comeOn_119 (by decide) ?_
                exact zret_z E rfl (Or.inl rfl) dX4_comeOn_120 (by simp only [mComeOn, mComeOnB, mComeOnC, if_neg h2, if_neg h4, if_pos h17, if_pos h19, if_neg h21, if_pos h24, if_pos h26]) (by simp only [mComeOn, mComeOnB, mComeOnC, if_neg h2, if_neg h4, if_pos h17, if_pos h19, if_neg h21, if_pos h24, if_pos h26])
              · refine zr_aload_n X 0 dX4_comeOn_79 rfl rfl ?_
                refine zr_iconst X (v := 3) dX4_comeOn_80 (by decide) ?_
                refine zr_put X zfd_RX4_18 zty_4_2 (t) ht (va_up_self _ _ _) rfl rfl (Nat.le_of_ble_eq_true rfl) (eMule_set _ _ 2 (by decide)) dX4_comeOn_81 ?_
                rw [va_up_up]
                refine zr_aload_n X 0 dX4_comeOn_84 rfl rfl ?_
                refine zr_iconst X (v := 5) dX4_comeOn_85 (by decide) ?_
                refine zr_put X zfd_RX4_21 zty_4_3 (t) ht (va_up_self _ _ _) rfl rfl (Nat.le_of_ble_eq_true rfl) (eMule_set _ _ 3 (by decide)) dX4_comeOn_86 ?_
                rw [va_up_up]
                refine zr_aload_n X 0 dX4_comeOn_89 rfl rfl ?_
                refine zr_dup X dX4_comeOn_90 rfl ?_
                refine zr_get X zfd_RX4_36 (t) ht (va_up_self _ _ _) (v := .int (v 8)) rfl dX4_comeOn_91 ?_
                refine zr_iconst X (v := 1) dX4_comeOn_94 (by decide) ?_
                refine zr_iadd X dX4_comeOn_95 ?_
                refine zr_put X zfd_RX4_36 zty_4_8 (t) ht (va_up_self _ _ _) rfl rfl (Nat.le_of_ble_eq_true rfl) (eMule_set _ _ 8 (by decide)) dX4_comeOn_96 ?_
                rw [va_up_up]
                refine zr_iconst X (v := 0) dX4_comeOn_99 (by decide) ?_
                exact zret_z E rfl (Or.inl rfl) dX4_comeOn_100 (by simp only [mComeOn, mComeOnB, mComeOnC, if_neg h2, if_neg h4, if_pos h17, if_pos h19, if_neg h21, if_pos h24, if_neg h27]) (by simp only [mComeOn, mComeOnB, mComeOnC, if_neg h2, if_neg h4, if_pos h17, if_pos h19, if_neg h21, if_pos h24, if_neg h27])
          · refine zr_aload_n X 0 dX4_comeOn_48 rfl rfl ?_
            refine zr_iconst X (v := 2) dX4_comeOn_49 (by decide) ?_
            refine zr_put X zfd_RX4_18 zty_4_2 (t) ht (va_up_self _ _ _) rfl rfl (Nat.le_of_ble_eq_true rfl) (eMule_set _ _ 2 (by decide)) dX4_comeOn_50 ?_
            rw [va_up_up]
            refine zr_aload_n X 0 dX4_comeOn_53 rfl rfl ?_
            refine zr_iconst X (v := 2) dX4_comeOn_54 (by decide) ?_
            refine zr_put X zfd_RX4_21 zty_4_3 (t) ht (va_up_self _ _ _) rfl rfl (Nat.le_of_ble_eq_true rfl) (eMule_set _ _ 3 (by decide)) dX4_comeOn_55 ?_
            rw [va_up_up]
            refine zr_iconst X (v := 1) dX4_comeOn_58 (by decide) ?_
            exact zret_z E rfl (Or.inr rfl) dX4_comeOn_59 (by simp only [mComeOn, mComeOnB, mComeOnC, if_neg h2, if_neg h4, if_pos h17, if_pos h19, if_pos h22]) (by simp only [mComeOn, mComeOnB, mComeOnC, if_neg h2, if_neg h4, if_pos h17, if_pos h19, if_pos h22])
        · refine zr_iconst X (v := 0) dX4_comeOn_38 (by decide) ?_
          exact zret_z E rfl (Or.inl rfl) dX4_comeOn_39 (by simp only [mComeOn, mComeOnB, mComeOnC, if_neg h2, if_neg h4, if_pos h17, if_neg h20]) (by simp only [mComeOn, mComeOnB, mComeOnC, if_neg h2, if_neg h4, if_pos h17, if_neg h20])
      · refine zr_iconst X (v := 0) dX4_comeOn_19 (by decide) ?_
        exact zret_z E rfl (Or.inl rfl) dX4_comeOn_20 (by simp only [mComeOn, mComeOnB, mComeOnC, if_neg h2, if_neg h4, if_neg h18]) (zsame_up hf (by simp only [mComeOn, mComeOnB, mComeOnC, if_neg h2, if_neg h4, if_neg h18]))
set_option maxHeartbeats 4000000 in
set_option maxRecDepth 100000 in
theorem k_Mule_unload {l : Launch} {D : va_G} {cy : Nat → ClassId} {w : zW} {f : zF} {t : Nat} {v : Nat → Int32}  (ht : t < w.1) (hf : f t = eMule v)  : zSd l D cy yX4_unload cX4_unload 2 (some .int) 0 0 [.ref (w.2 (t))] w f (some (.int (v 4))) (va_up f t (eMule (upd (upd v 4 0) 7 (v 7 + v 4)))) := by
  refine zSd.intro (by decide) (Nat.le_of_ble_eq_true rfl) (fun G X E => ?_)
  show G (w, 0, 0) f [(0, .ref (w.2 (t)))] 0 []
  refine zr_aload_n X 0 dX4_unload_0 rfl rfl ?_
  refine zr_get X zfd_RX4_24 (t) ht hf (v := .int (v 4)) rfl dX4_unload_1 ?_
  refine zr_istore_n X (ls' := [(1, .int (v 4)), (0, .ref (w.2 (t)))]) dX4_unload_4 rfl (by decide) rfl ?_
  refine zr_aload_n X 1 dX4_unload_5 rfl rfl ?_
  refine zr_iconst X (v := 0) dX4_unload_6 (by decide) ?_
  refine zr_put X zfd_RX4_24 zty_4_4 (t) ht hf rfl rfl (Nat.le_of_ble_eq_true rfl) (eMule_set _ _ 4 (by decide)) dX4_unload_7 ?_
  refine zr_aload_n X 1 dX4_unload_10 rfl rfl ?_
  refine zr_dup X dX4_unload_11 rfl ?_
  refine zr_get X zfd_RX4_33 (t) ht (va_up_self _ _ _) (v := .int (v 7)) rfl dX4_unload_12 ?_
  refine zr_iload_n X 0 dX4_unload_15 rfl rfl ?_
  refine zr_iadd X dX4_unload_16 ?_
  refine zr_put X zfd_RX4_33 zty_4_7 (t) ht (va_up_self _ _ _) rfl rfl (Nat.le_of_ble_eq_true rfl) (eMule_set _ _ 7 (by decide)) dX4_unload_17 ?_
  rw [va_up_up]
  refine zr_iload_n X 0 dX4_unload_20 rfl rfl ?_
  exact zret_i E rfl dX4_unload_21 rfl rfl
def mTell (v : Nat → Int32) (x : Int32) : Int32 := if x = 0 then v 0 else if x = 1 then v 1 else if x = 2 then v 2 else if x = 3 then v 3 else if x = 4 then v 4 else if x = 5 then v 6 else if x = 6 then v 7 else if x = 7 then v 8 else (-1000001)
set_option maxHeartbeats 4000000 in
set_option maxRecDepth 100000 in
theorem k_Mule_tell {l : Launch} {D : va_G} {cy : Nat → ClassId} {w : zW} {f : zF} {t : Nat} {v : Nat → Int32} {x : Int32} (ht : t < w.1) (hf : f t = eMule v)  : zSd l D cy yX4_tell cX4_tell 2 (some .int) 0 0 [.ref (w.2 (t)), .int (x)] w f (some (.int (mTell v x))) f := by
  refine zSd.intro (by decide) (Nat.le_of_ble_eq_true rfl) (fun G X E => ?_)
  show G (w, 0, 0) f [(0, .ref (w.2 (t))), (1, .int (x))] 0 []
  refine zr_iload_n X 1 dX4_tell_0 rfl rfl ?_
  by_cases h1 : x = 0
  · refine zr_tableIn X (off := 47) (tgt := 48) dX4_tell_1 (by rw [h1]; decide) (by rw [h1]; decide) (by rw [h1]; decide) (by decide) ?_
    refine zr_aload_n X 0 dX4_tell_48 rfl rfl ?_
    refine zr_get X zfd_RX4_9 (t) ht hf (v := .int (v 0)) rfl dX4_tell_49 ?_
    exact zret_i E rfl dX4_tell_52 (by simp only [mTell, if_pos h1]) rfl
  by_cases h2 : x = 1
  · refine zr_tableIn X (off := 52) (tgt := 53) dX4_tell_1 (by rw [h2]; decide) (by rw [h2]; decide) (by rw [h2]; decide) (by decide) ?_
    refine zr_aload_n X 0 dX4_tell_53 rfl rfl ?_
    refine zr_get X zfd_RX4_15 (t) ht hf (v := .int (v 1)) rfl dX4_tell_54 ?_
    exact zret_i E rfl dX4_tell_57 (by simp only [mTell, if_neg h1, if_pos h2]) rfl
  by_cases h3 : x = 2
  · refine zr_tableIn X (off := 57) (tgt := 58) dX4_tell_1 (by rw [h3]; decide) (by rw [h3]; decide) (by rw [h3]; decide) (by decide) ?_
    refine zr_aload_n X 0 dX4_tell_58 rfl rfl ?_
    refine zr_get X zfd_RX4_18 (t) ht hf (v := .int (v 2)) rfl dX4_tell_59 ?_
    exact zret_i E rfl dX4_tell_62 (by simp only [mTell, if_neg h1, if_neg h2, if_pos h3]) rfl
  by_cases h4 : x = 3
  · refine zr_tableIn X (off := 62) (tgt := 63) dX4_tell_1 (by rw [h4]; decide) (by rw [h4]; decide) (by rw [h4]; decide) (by decide) ?_
    refine zr_aload_n X 0 dX4_tell_63 rfl rfl ?_
    refine zr_get X zfd_RX4_21 (t) ht hf (v := .int (v 3)) rfl dX4_tell_64 ?_
    exact zret_i E rfl dX4_tell_67 (by simp only [mTell, if_neg h1, if_neg h2, if_neg h3, if_pos h4]) rfl
  by_cases h5 : x = 4
  · refine zr_tableIn X (off := 67) (tgt := 68) dX4_tell_1 (by rw [h5]; decide) (by rw [h5]; decide) (by rw [h5]; decide) (by decide) ?_
    refine zr_aload_n X 0 dX4_tell_68 rfl rfl ?_
    refine zr_get X zfd_RX4_24 (t) ht hf (v := .int (v 4)) rfl dX4_tell_69 ?_
    exact zret_i E rfl dX4_tell_72 (by simp only [mTell, if_neg h1, if_neg h2, if_neg h3, if_neg h4, if_pos h5]) rfl
  by_cases h6 : x = 5
  · refine zr_tableIn X (off := 72) (tgt := 73) dX4_tell_1 (by rw [h6]; decide) (by rw [h6]; decide) (by rw [h6]; decide) (by decide) ?_
    refine zr_aload_n X 0 dX4_tell_73 rfl rfl ?_
    refine zr_get X zfd_RX4_30 (t) ht hf (v := .int (v 6)) rfl dX4_tell_74 ?_
    exact zret_i E rfl dX4_tell_77 (by simp only [mTell, if_neg h1, if_neg h2, if_neg h3, if_neg h4, if_neg h5, if_pos h6]) rfl
  by_cases h7 : x = 6
  · refine zr_tableIn X (off := 77) (tgt := 78) dX4_tell_1 (by rw [h7]; decide) (by rw [h7]; decide) (by rw [h7]; decide) (by decide) ?_
    refine zr_aload_n X 0 dX4_tell_78 rfl rfl ?_
    refine zr_get X zfd_RX4_33 (t) ht hf (v := .int (v 7)) rfl dX4_tell_79 ?_
    exact zret_i E rfl dX4_tell_82 (by simp only [mTell, if_neg h1, if_neg h2, if_neg h3, if_neg h4, if_neg h5, if_neg h6, if_pos h7]) rfl
  by_cases h8 : x = 7
  · refine zr_tableIn X (off := 82) (tgt := 83) dX4_tell_1 (by rw [h8]; decide) (by rw [h8]; decide) (by rw [h8]; decide) (by decide) ?_
    refine zr_aload_n X 0 dX4_tell_83 rfl rfl ?_
    refine zr_get X zfd_RX4_36 (t) ht hf (v := .int (v 8)) rfl dX4_tell_84 ?_
    exact zret_i E rfl dX4_tell_87 (by simp only [mTell, if_neg h1, if_neg h2, if_neg h3, if_neg h4, if_neg h5, if_neg h6, if_neg h7, if_pos h8]) rfl
  refine zr_tableOut X (tgt := 88) dX4_tell_1 (by have e0 := lv_neT h1 (show (0 : Int32).toInt = 0 from by decide); have e1 := lv_neT h2 (show (1 : Int32).toInt = 1 from by decide); have e2 := lv_neT h3 (show (2 : Int32).toInt = 2 from by decide); have e3 := lv_neT h4 (show (3 : Int32).toInt = 3 from by decide); have e4 := lv_neT h5 (show (4 : Int32).toInt = 4 from by decide); have e5 := lv_neT h6 (show (5 : Int32).toInt = 5 from by decide); have e6 := lv_neT h7 (show (6 : Int32).toInt = 6 from by decide); have e7 := lv_neT h8 (show (7 : Int32).toInt = 7 from by decide); omega) (by decide) ?_
  refine zr_ldc X zm_3_11 dX4_tell_88 ?_
  exact zret_i E rfl dX4_tell_90 (by simp only [mTell, if_neg h1, if_neg h2, if_neg h3, if_neg h4, if_neg h5, if_neg h6, if_neg h7, if_neg h8]) rfl
def mAhead (v v2 : Nat → Int32) : Int32 := if v 0 = v2 0 then (if v2 6 ≤ v 6 then 0 else 1) else if v 0 ≤ v2 0 then 0 else 1
set_option maxHeartbeats 4000000 in
set_option maxRecDepth 100000 in
theorem k_Mule_goesAheadOf {l : Launch} {D : va_G} {cy : Nat → ClassId} {w : zW} {f : zF} {t u : Nat} {v v2 : Nat → Int32} (ht : t < w.1) (hu : u < w.1) (hf : f t = eMule v) (hf2 : f u = eMule v2)  : zSd l D cy yX4_goesAheadOf cX4_goesAheadOf 2 (some .boolean) 0 0 [.ref (w.2 (t)), .ref (w.2 (u))] w f (some (.int (mAhead v v2))) f := by
  refine zSd.intro (by decide) (Nat.le_of_ble_eq_true rfl) (fun G X E => ?_)
  show G (w, 0, 0) f [(0, .ref (w.2 (t))), (1, .ref (w.2 (u)))] 0 []
  refine zr_aload_n X 0 dX4_goesAheadOf_0 rfl rfl ?_
  refine zr_get X zfd_RX4_9 (t) ht hf (v := .int (v 0)) rfl dX4_goesAheadOf_1 ?_
  refine zr_aload_n X 1 dX4_goesAheadOf_4 rfl rfl ?_
  refine zr_get X zfd_RX4_9 (u) hu hf2 (v := .int (v2 0)) rfl dX4_goesAheadOf_5 ?_
  refine zr_icmp_eq X (tgt := 30) dX4_goesAheadOf_8 (by decide) (fun h1 => ?_) (fun h2 => ?_)
  · refine zr_aload_n X 0 dX4_goesAheadOf_30 rfl rfl ?_
    refine zr_get X zfd_RX4_30 (t) ht hf (v := .int (v 6)) rfl dX4_goesAheadOf_31 ?_
    refine zr_aload_n X 1 dX4_goesAheadOf_34 rfl rfl ?_
    refine zr_get X zfd_RX4_30 (u) hu hf2 (v := .int (v2 6)) rfl dX4_goesAheadOf_35 ?_
    refine zr_icmp_ge X (tgt := 45) dX4_goesAheadOf_38 (by decide) (fun h3 => ?_) (fun h4 => ?_)
    · refine zr_iconst X (v := 0) dX4_goesAheadOf_45 (by decide) ?_
      exact zret_z E rfl (Or.inl rfl) dX4_goesAheadOf_46 (by simp only [mAhead, if_pos h1, if_pos h3]) rfl
    · refine zr_iconst X (v := 1) dX4_goesAheadOf_41 (by decide) ?_
      refine zr_goto X (tgt := 46) dX4_goesAheadOf_42 (by decide) ?_
      exact zret_z E rfl (Or.inr rfl) dX4_goesAheadOf_46 (by simp only [mAhead, if_pos h1, if_neg h4]) rfl
  · refine zr_aload_n X 0 dX4_goesAheadOf_11 rfl rfl ?_
    refine zr_get X zfd_RX4_9 (t) ht hf (v := .int (v 0)) rfl dX4_goesAheadOf_12 ?_
    refine zr_aload_n X 1 dX4_goesAheadOf_15 rfl rfl ?_
    refine zr_get X zfd_RX4_9 (u) hu hf2 (v := .int (v2 0)) rfl dX4_goesAheadOf_16 ?_
    refine zr_icmp_le X (tgt := 26) dX4_goesAheadOf_19 (by decide) (fun h5 => ?_) (fun h6 => ?_)
    · refine zr_iconst X (v := 0) dX4_goesAheadOf_26 (by decide) ?_
      refine zr_goto X (tgt := 46) dX4_goesAheadOf_27 (by decide) ?_
      exact zret_z E rfl (Or.inl rfl) dX4_goesAheadOf_46 (by simp only [mAhead, if_neg h2, if_pos h5]) rfl
    · refine zr_iconst X (v := 1) dX4_goesAheadOf_22 (by decide) ?_
      refine zr_goto X (tgt := 46) dX4_goesAheadOf_23 (by decide) ?_
      exact zret_z E rfl (Or.inr rfl) dX4_goesAheadOf_46 (by simp only [mAhead, if_neg h2, if_neg h6]) rfl
set_option maxHeartbeats 4000000 in
set_option maxRecDepth 100000 in
theorem k_Mule_copyFrom {l : Launch} {D : va_G} {cy : Nat → ClassId} {w : zW} {f : zF} {t u : Nat} {v v2 : Nat → Int32} (ht : t < w.1) (hu : u < w.1) (hf : f t = eMule v) (hf2 : f u = eMule v2) (hne : u ≠ t) : zSd l D cy yX4_copyFrom cX4_copyFrom 2 none 0 0 [.ref (w.2 (t)), .ref (w.2 (u))] w f none (va_up f t (eMule v2)) := by
  refine zSd.intro (by decide) (Nat.le_of_ble_eq_true rfl) (fun G X E => ?_)
  show G (w, 0, 0) f [(0, .ref (w.2 (t))), (1, .ref (w.2 (u)))] 0 []
  refine zr_aload_n X 0 dX4_copyFrom_0 rfl rfl ?_
  refine zr_aload_n X 1 dX4_copyFrom_1 rfl rfl ?_
  refine zr_get X zfd_RX4_9 (u) hu hf2 (v := .int (v2 0)) rfl dX4_copyFrom_2 ?_
  refine zr_put X zfd_RX4_9 zty_4_0 (t) ht hf rfl rfl (Nat.le_of_ble_eq_true rfl) (eMule_set _ _ 0 (by decide)) dX4_copyFrom_5 ?_
  refine zr_aload_n X 0 dX4_copyFrom_8 rfl rfl ?_
  refine zr_aload_n X 1 dX4_copyFrom_9 rfl rfl ?_
  refine zr_get X zfd_RX4_15 (u) hu ((va_up_ne _ _ (by exact hne)).trans hf2) (v := .int (v2 1)) rfl dX4_copyFrom_10 ?_
  refine zr_put X zfd_RX4_15 zty_4_1 (t) ht (va_up_self _ _ _) rfl rfl (Nat.le_of_ble_eq_true rfl) (eMule_set _ _ 1 (by decide)) dX4_copyFrom_13 ?_
  rw [va_up_up]
  refine zr_aload_n X 0 dX4_copyFrom_16 rfl rfl ?_
  refine zr_aload_n X 1 dX4_copyFrom_17 rfl rfl ?_
  refine zr_get X zfd_RX4_18 (u) hu ((va_up_ne _ _ (by exact hne)).trans hf2) (v := .int (v2 2)) rfl dX4_copyFrom_18 ?_
  refine zr_put X zfd_RX4_18 zty_4_2 (t) ht (va_up_self _ _ _) rfl rfl (Nat.le_of_ble_eq_true rfl) (eMule_set _ _ 2 (by decide)) dX4_copyFrom_21 ?_
  rw [va_up_up]
  refine zr_aload_n X 0 dX4_copyFrom_24 rfl rfl ?_
  refine zr_aload_n X 1 dX4_copyFrom_25 rfl rfl ?_
  refine zr_get X zfd_RX4_21 (u) hu ((va_up_ne _ _ (by exact hne)).trans hf2) (v := .int (v2 3)) rfl dX4_copyFrom_26 ?_
  refine zr_put X zfd_RX4_21 zty_4_3 (t) ht (va_up_self _ _ _) rfl rfl (Nat.le_of_ble_eq_true rfl) (eMule_set _ _ 3 (by decide)) dX4_copyFrom_29 ?_
  rw [va_up_up]
  refine zr_aload_n X 0 dX4_copyFrom_32 rfl rfl ?_
  refine zr_aload_n X 1 dX4_copyFrom_33 rfl rfl ?_
  refine zr_get X zfd_RX4_24 (u) hu ((va_up_ne _ _ (by exact hne)).trans hf2) (v := .int (v2 4)) rfl dX4_copyFrom_34 ?_
  refine zr_put X zfd_RX4_24 zty_4_4 (t) ht (va_up_self _ _ _) rfl rfl (Nat.le_of_ble_eq_true rfl) (eMule_set _ _ 4 (by decide)) dX4_copyFrom_37 ?_
  rw [va_up_up]
  refine zr_aload_n X 0 dX4_copyFrom_40 rfl rfl ?_
  refine zr_aload_n X 1 dX4_copyFrom_41 rfl rfl ?_
  refine zr_get X zfd_RX4_27 (u) hu ((va_up_ne _ _ (by exact hne)).trans hf2) (v := .int (v2 5)) rfl dX4_copyFrom_42 ?_
  refine zr_put X zfd_RX4_27 zty_4_5 (t) ht (va_up_self _ _ _) rfl rfl (Nat.le_of_ble_eq_true rfl) (eMule_set _ _ 5 (by decide)) dX4_copyFrom_45 ?_
  rw [va_up_up]
  refine zr_aload_n X 0 dX4_copyFrom_48 rfl rfl ?_
  refine zr_aload_n X 1 dX4_copyFrom_49 rfl rfl ?_
  refine zr_get X zfd_RX4_30 (u) hu ((va_up_ne _ _ (by exact hne)).trans hf2) (v := .int (v2 6)) rfl dX4_copyFrom_50 ?_
  refine zr_put X zfd_RX4_30 zty_4_6 (t) ht (va_up_self _ _ _) rfl rfl (Nat.le_of_ble_eq_true rfl) (eMule_set _ _ 6 (by decide)) dX4_copyFrom_53 ?_
  rw [va_up_up]
  refine zr_aload_n X 0 dX4_copyFrom_56 rfl rfl ?_
  refine zr_aload_n X 1 dX4_copyFrom_57 rfl rfl ?_
  refine zr_get X zfd_RX4_33 (u) hu ((va_up_ne _ _ (by exact hne)).trans hf2) (v := .int (v2 7)) rfl dX4_copyFrom_58 ?_
  refine zr_put X zfd_RX4_33 zty_4_7 (t) ht (va_up_self _ _ _) rfl rfl (Nat.le_of_ble_eq_true rfl) (eMule_set _ _ 7 (by decide)) dX4_copyFrom_61 ?_
  rw [va_up_up]
  refine zr_aload_n X 0 dX4_copyFrom_64 rfl rfl ?_
  refine zr_aload_n X 1 dX4_copyFrom_65 rfl rfl ?_
  refine zr_get X zfd_RX4_36 (u) hu ((va_up_ne _ _ (by exact hne)).trans hf2) (v := .int (v2 8)) rfl dX4_copyFrom_66 ?_
  refine zr_put X zfd_RX4_36 zty_4_8 (t) ht (va_up_self _ _ _) rfl rfl (Nat.le_of_ble_eq_true rfl) (eMule_set _ _ 8 (by decide)) dX4_copyFrom_69 ?_
  rw [va_up_up]
  exact zret_v E rfl dX4_copyFrom_72 (congrArg (va_up f t) (eMule_congr (by intro i hi; rcases (show i = 0 ∨ i = 1 ∨ i = 2 ∨ i = 3 ∨ i = 4 ∨ i = 5 ∨ i = 6 ∨ i = 7 ∨ i = 8 by omega) with rfl | rfl | rfl | rfl | rfl | rfl | rfl | rfl | rfl <;> rfl)))
set_option maxHeartbeats 4000000 in
set_option maxRecDepth 100000 in
theorem k_Group_copyFrom {l : Launch} {D : va_G} {cy : Nat → ClassId} {w : zW} {f : zF} {t u : Nat} {v v2 : Nat → Int32} (ht : t < w.1) (hu : u < w.1) (hf : f t = eGroup v) (hf2 : f u = eGroup v2) (hne : u ≠ t) : zSd l D cy yX0_copyFrom cX0_copyFrom 2 none 0 0 [.ref (w.2 (t)), .ref (w.2 (u))] w f none (va_up f t (eGroup v2)) := by
  refine zSd.intro (by decide) (Nat.le_of_ble_eq_true rfl) (fun G X E => ?_)
  show G (w, 0, 0) f [(0, .ref (w.2 (t))), (1, .ref (w.2 (u)))] 0 []
  refine zr_aload_n X 0 dX0_copyFrom_0 rfl rfl ?_
  refine zr_aload_n X 1 dX0_copyFrom_1 rfl rfl ?_
  refine zr_get X zfd_RX0_9 (u) hu hf2 (v := .int (v2 0)) rfl dX0_copyFrom_2 ?_
  refine zr_put X zfd_RX0_9 zty_0_0 (t) ht hf rfl rfl (Nat.le_of_ble_eq_true rfl) (eGroup_set _ _ 0 (by decide)) dX0_copyFrom_5 ?_
  refine zr_aload_n X 0 dX0_copyFrom_8 rfl rfl ?_
  refine zr_aload_n X 1 dX0_copyFrom_9 rfl rfl ?_
  refine zr_get X zfd_RX0_15 (u) hu ((va_up_ne _ _ (by exact hne)).trans hf2) (v := .int (v2 1)) rfl dX0_copyFrom_10 ?_
  refine zr_put X zfd_RX0_15 zty_0_1 (t) ht (va_up_self _ _ _) rfl rfl (Nat.le_of_ble_eq_true rfl) (eGroup_set _ _ 1 (by decide)) dX0_copyFrom_13 ?_
  rw [va_up_up]
  refine zr_aload_n X 0 dX0_copyFrom_16 rfl rfl ?_
  refine zr_aload_n X 1 dX0_copyFrom_17 rfl rfl ?_
  refine zr_get X zfd_RX0_18 (u) hu ((va_up_ne _ _ (by exact hne)).trans hf2) (v := .int (v2 2)) rfl dX0_copyFrom_18 ?_
  refine zr_put X zfd_RX0_18 zty_0_2 (t) ht (va_up_self _ _ _) rfl rfl (Nat.le_of_ble_eq_true rfl) (eGroup_set _ _ 2 (by decide)) dX0_copyFrom_21 ?_
  rw [va_up_up]
  refine zr_aload_n X 0 dX0_copyFrom_24 rfl rfl ?_
  refine zr_aload_n X 1 dX0_copyFrom_25 rfl rfl ?_
  refine zr_get X zfd_RX0_21 (u) hu ((va_up_ne _ _ (by exact hne)).trans hf2) (v := .int (v2 3)) rfl dX0_copyFrom_26 ?_
  refine zr_put X zfd_RX0_21 zty_0_3 (t) ht (va_up_self _ _ _) rfl rfl (Nat.le_of_ble_eq_true rfl) (eGroup_set _ _ 3 (by decide)) dX0_copyFrom_29 ?_
  rw [va_up_up]
  refine zr_aload_n X 0 dX0_copyFrom_32 rfl rfl ?_
  refine zr_aload_n X 1 dX0_copyFrom_33 rfl rfl ?_
  refine zr_get X zfd_RX0_24 (u) hu ((va_up_ne _ _ (by exact hne)).trans hf2) (v := .int (v2 4)) rfl dX0_copyFrom_34 ?_
  refine zr_put X zfd_RX0_24 zty_0_4 (t) ht (va_up_self _ _ _) rfl rfl (Nat.le_of_ble_eq_true rfl) (eGroup_set _ _ 4 (by decide)) dX0_copyFrom_37 ?_
  rw [va_up_up]
  refine zr_aload_n X 0 dX0_copyFrom_40 rfl rfl ?_
  refine zr_aload_n X 1 dX0_copyFrom_41 rfl rfl ?_
  refine zr_get X zfd_RX0_27 (u) hu ((va_up_ne _ _ (by exact hne)).trans hf2) (v := .int (v2 5)) rfl dX0_copyFrom_42 ?_
  refine zr_put X zfd_RX0_27 zty_0_5 (t) ht (va_up_self _ _ _) rfl rfl (Nat.le_of_ble_eq_true rfl) (eGroup_set _ _ 5 (by decide)) dX0_copyFrom_45 ?_
  rw [va_up_up]
  exact zret_v E rfl dX0_copyFrom_48 (congrArg (va_up f t) (eGroup_congr (by intro i hi; rcases (show i = 0 ∨ i = 1 ∨ i = 2 ∨ i = 3 ∨ i = 4 ∨ i = 5 by omega) with rfl | rfl | rfl | rfl | rfl | rfl <;> rfl)))
set_option maxHeartbeats 4000000 in
set_option maxRecDepth 100000 in
theorem k_Ledger_copyFrom {l : Launch} {D : va_G} {cy : Nat → ClassId} {w : zW} {f : zF} {t u : Nat} {v v2 : Nat → Int32} (ht : t < w.1) (hu : u < w.1) (hf : f t = eLedger v) (hf2 : f u = eLedger v2) (hne : u ≠ t) : zSd l D cy yX3_copyFrom cX3_copyFrom 2 none 0 0 [.ref (w.2 (t)), .ref (w.2 (u))] w f none (va_up f t (eLedger v2)) := by
  refine zSd.intro (by decide) (Nat.le_of_ble_eq_true rfl) (fun G X E => ?_)
  show G (w, 0, 0) f [(0, .ref (w.2 (t))), (1, .ref (w.2 (u)))] 0 []
  refine zr_aload_n X 0 dX3_copyFrom_0 rfl rfl ?_
  refine zr_aload_n X 1 dX3_copyFrom_1 rfl rfl ?_
  refine zr_get X zfd_RX3_7 (u) hu hf2 (v := .int (v2 0)) rfl dX3_copyFrom_2 ?_
  refine zr_put X zfd_RX3_7 zty_3_0 (t) ht hf rfl rfl (Nat.le_of_ble_eq_true rfl) (eLedger_set _ _ 0 (by decide)) dX3_copyFrom_5 ?_
  refine zr_aload_n X 0 dX3_copyFrom_8 rfl rfl ?_
  refine zr_aload_n X 1 dX3_copyFrom_9 rfl rfl ?_
  refine zr_get X zfd_RX3_13 (u) hu ((va_up_ne _ _ (by exact hne)).trans hf2) (v := .int (v2 1)) rfl dX3_copyFrom_10 ?_
  refine zr_put X zfd_RX3_13 zty_3_1 (t) ht (va_up_self _ _ _) rfl rfl (Nat.le_of_ble_eq_true rfl) (eLedger_set _ _ 1 (by decide)) dX3_copyFrom_13 ?_
  rw [va_up_up]
  refine zr_aload_n X 0 dX3_copyFrom_16 rfl rfl ?_
  refine zr_aload_n X 1 dX3_copyFrom_17 rfl rfl ?_
  refine zr_get X zfd_RX3_16 (u) hu ((va_up_ne _ _ (by exact hne)).trans hf2) (v := .int (v2 2)) rfl dX3_copyFrom_18 ?_
  refine zr_put X zfd_RX3_16 zty_3_2 (t) ht (va_up_self _ _ _) rfl rfl (Nat.le_of_ble_eq_true rfl) (eLedger_set _ _ 2 (by decide)) dX3_copyFrom_21 ?_
  rw [va_up_up]
  refine zr_aload_n X 0 dX3_copyFrom_24 rfl rfl ?_
  refine zr_aload_n X 1 dX3_copyFrom_25 rfl rfl ?_
  refine zr_get X zfd_RX3_19 (u) hu ((va_up_ne _ _ (by exact hne)).trans hf2) (v := .int (v2 3)) rfl dX3_copyFrom_26 ?_
  refine zr_put X zfd_RX3_19 zty_3_3 (t) ht (va_up_self _ _ _) rfl rfl (Nat.le_of_ble_eq_true rfl) (eLedger_set _ _ 3 (by decide)) dX3_copyFrom_29 ?_
  rw [va_up_up]
  refine zr_aload_n X 0 dX3_copyFrom_32 rfl rfl ?_
  refine zr_aload_n X 1 dX3_copyFrom_33 rfl rfl ?_
  refine zr_get X zfd_RX3_22 (u) hu ((va_up_ne _ _ (by exact hne)).trans hf2) (v := .int (v2 4)) rfl dX3_copyFrom_34 ?_
  refine zr_put X zfd_RX3_22 zty_3_4 (t) ht (va_up_self _ _ _) rfl rfl (Nat.le_of_ble_eq_true rfl) (eLedger_set _ _ 4 (by decide)) dX3_copyFrom_37 ?_
  rw [va_up_up]
  refine zr_aload_n X 0 dX3_copyFrom_40 rfl rfl ?_
  refine zr_aload_n X 1 dX3_copyFrom_41 rfl rfl ?_
  refine zr_get X zfd_RX3_25 (u) hu ((va_up_ne _ _ (by exact hne)).trans hf2) (v := .int (v2 5)) rfl dX3_copyFrom_42 ?_
  refine zr_put X zfd_RX3_25 zty_3_5 (t) ht (va_up_self _ _ _) rfl rfl (Nat.le_of_ble_eq_true rfl) (eLedger_set _ _ 5 (by decide)) dX3_copyFrom_45 ?_
  rw [va_up_up]
  refine zr_aload_n X 0 dX3_copyFrom_48 rfl rfl ?_
  refine zr_aload_n X 1 dX3_copyFrom_49 rfl rfl ?_
  refine zr_get X zfd_RX3_28 (u) hu ((va_up_ne _ _ (by exact hne)).trans hf2) (v := .int (v2 6)) rfl dX3_copyFrom_50 ?_
  refine zr_put X zfd_RX3_28 zty_3_6 (t) ht (va_up_self _ _ _) rfl rfl (Nat.le_of_ble_eq_true rfl) (eLedger_set _ _ 6 (by decide)) dX3_copyFrom_53 ?_
  rw [va_up_up]
  refine zr_aload_n X 0 dX3_copyFrom_56 rfl rfl ?_
  refine zr_aload_n X 1 dX3_copyFrom_57 rfl rfl ?_
  refine zr_get X zfd_RX3_31 (u) hu ((va_up_ne _ _ (by exact hne)).trans hf2) (v := .int (v2 7)) rfl dX3_copyFrom_58 ?_
  refine zr_put X zfd_RX3_31 zty_3_7 (t) ht (va_up_self _ _ _) rfl rfl (Nat.le_of_ble_eq_true rfl) (eLedger_set _ _ 7 (by decide)) dX3_copyFrom_61 ?_
  rw [va_up_up]
  refine zr_aload_n X 0 dX3_copyFrom_64 rfl rfl ?_
  refine zr_aload_n X 1 dX3_copyFrom_65 rfl rfl ?_
  refine zr_get X zfd_RX3_34 (u) hu ((va_up_ne _ _ (by exact hne)).trans hf2) (v := .int (v2 8)) rfl dX3_copyFrom_66 ?_
  refine zr_put X zfd_RX3_34 zty_3_8 (t) ht (va_up_self _ _ _) rfl rfl (Nat.le_of_ble_eq_true rfl) (eLedger_set _ _ 8 (by decide)) dX3_copyFrom_69 ?_
  rw [va_up_up]
  refine zr_aload_n X 0 dX3_copyFrom_72 rfl rfl ?_
  refine zr_aload_n X 1 dX3_copyFrom_73 rfl rfl ?_
  refine zr_get X zfd_RX3_37 (u) hu ((va_up_ne _ _ (by exact hne)).trans hf2) (v := .int (v2 9)) rfl dX3_copyFrom_74 ?_
  refine zr_put X zfd_RX3_37 zty_3_9 (t) ht (va_up_self _ _ _) rfl rfl (Nat.le_of_ble_eq_true rfl) (eLedger_set _ _ 9 (by decide)) dX3_copyFrom_77 ?_
  rw [va_up_up]
  exact zret_v E rfl dX3_copyFrom_80 (congrArg (va_up f t) (eLedger_congr (by intro i hi; rcases (show i = 0 ∨ i = 1 ∨ i = 2 ∨ i = 3 ∨ i = 4 ∨ i = 5 ∨ i = 6 ∨ i = 7 ∨ i = 8 ∨ i = 9 by omega) with rfl | rfl | rfl | rfl | rfl | rfl | rfl | rfl | rfl | rfl <;> rfl)))
set_option maxHeartbeats 4000000 in
set_option maxRecDepth 100000 in
theorem k_Sett_copyFrom {l : Launch} {D : va_G} {cy : Nat → ClassId} {w : zW} {f : zF} {t u : Nat} {v v2 : Nat → Int32} (ht : t < w.1) (hu : u < w.1) (hf : f t = eSett v) (hf2 : f u = eSett v2) (hne : u ≠ t) : zSd l D cy yX6_copyFrom cX6_copyFrom 2 none 0 0 [.ref (w.2 (t)), .ref (w.2 (u))] w f none (va_up f t (eSett v2)) := by
  refine zSd.intro (by decide) (Nat.le_of_ble_eq_true rfl) (fun G X E => ?_)
  show G (w, 0, 0) f [(0, .ref (w.2 (t))), (1, .ref (w.2 (u)))] 0 []
  refine zr_aload_n X 0 dX6_copyFrom_0 rfl rfl ?_
  refine zr_aload_n X 1 dX6_copyFrom_1 rfl rfl ?_
  refine zr_get X zfd_RX6_9 (u) hu hf2 (v := .int (v2 0)) rfl dX6_copyFrom_2 ?_
  refine zr_put X zfd_RX6_9 zty_6_0 (t) ht hf rfl rfl (Nat.le_of_ble_eq_true rfl) (eSett_set _ _ 0 (by decide)) dX6_copyFrom_5 ?_
  refine zr_aload_n X 0 dX6_copyFrom_8 rfl rfl ?_
  refine zr_aload_n X 1 dX6_copyFrom_9 rfl rfl ?_
  refine zr_get X zfd_RX6_15 (u) hu ((va_up_ne _ _ (by exact hne)).trans hf2) (v := .int (v2 1)) rfl dX6_copyFrom_10 ?_
  refine zr_put X zfd_RX6_15 zty_6_1 (t) ht (va_up_self _ _ _) rfl rfl (Nat.le_of_ble_eq_true rfl) (eSett_set _ _ 1 (by decide)) dX6_copyFrom_13 ?_
  rw [va_up_up]
  refine zr_aload_n X 0 dX6_copyFrom_16 rfl rfl ?_
  refine zr_aload_n X 1 dX6_copyFrom_17 rfl rfl ?_
  refine zr_get X zfd_RX6_18 (u) hu ((va_up_ne _ _ (by exact hne)).trans hf2) (v := .int (v2 2)) rfl dX6_copyFrom_18 ?_
  refine zr_put X zfd_RX6_18 zty_6_2 (t) ht (va_up_self _ _ _) rfl rfl (Nat.le_of_ble_eq_true rfl) (eSett_set _ _ 2 (by decide)) dX6_copyFrom_21 ?_
  rw [va_up_up]
  refine zr_aload_n X 0 dX6_copyFrom_24 rfl rfl ?_
  refine zr_aload_n X 1 dX6_copyFrom_25 rfl rfl ?_
  refine zr_get X zfd_RX6_21 (u) hu ((va_up_ne _ _ (by exact hne)).trans hf2) (v := .int (v2 3)) rfl dX6_copyFrom_26 ?_
  refine zr_put X zfd_RX6_21 zty_6_3 (t) ht (va_up_self _ _ _) rfl rfl (Nat.le_of_ble_eq_true rfl) (eSett_set _ _ 3 (by decide)) dX6_copyFrom_29 ?_
  rw [va_up_up]
  exact zret_v E rfl dX6_copyFrom_32 (congrArg (va_up f t) (eSett_congr (by intro i hi; rcases (show i = 0 ∨ i = 1 ∨ i = 2 ∨ i = 3 by omega) with rfl | rfl | rfl | rfl <;> rfl)))
def gBegin (v : Nat → Int32) (a b c d : Int32) : Nat → Int32 := upd (upd (upd (upd (upd (upd v 0 a) 1 b) 2 c) 3 d) 4 0) 5 0
set_option maxHeartbeats 4000000 in
set_option maxRecDepth 100000 in
theorem k_Group_begin {l : Launch} {D : va_G} {cy : Nat → ClassId} {w : zW} {f : zF} {t : Nat} {v : Nat → Int32} {a : Int32} {b : Int32} {c : Int32} {d : Int32} (ht : t < w.1) (hf : f t = eGroup v)  : zSd l D cy yX0_begin cX0_begin 5 none 0 0 [.ref (w.2 (t)), .int (a), .int (b), .int (c), .int (d)] w f none (va_up f t (eGroup (gBegin v a b c d))) := by
  refine zSd.intro (by decide) (Nat.le_of_ble_eq_true rfl) (fun G X E => ?_)
  show G (w, 0, 0) f [(0, .ref (w.2 (t))), (1, .int (a)), (2, .int (b)), (3, .int (c)), (4, .int (d))] 0 []
  refine zr_aload_n X 0 dX0_begin_0 rfl rfl ?_
  refine zr_iload_n X 1 dX0_begin_1 rfl rfl ?_
  refine zr_put X zfd_RX0_9 zty_0_0 (t) ht hf rfl rfl (Nat.le_of_ble_eq_true rfl) (eGroup_set _ _ 0 (by decide)) dX0_begin_2 ?_
  refine zr_aload_n X 0 dX0_begin_5 rfl rfl ?_
  refine zr_iload_n X 2 dX0_begin_6 rfl rfl ?_
  refine zr_put X zfd_RX0_15 zty_0_1 (t) ht (va_up_self _ _ _) rfl rfl (Nat.le_of_ble_eq_true rfl) (eGroup_set _ _ 1 (by decide)) dX0_begin_7 ?_
  rw [va_up_up]
  refine zr_aload_n X 0 dX0_begin_10 rfl rfl ?_
  refine zr_iload_n X 3 dX0_begin_11 rfl rfl ?_
  refine zr_put X zfd_RX0_18 zty_0_2 (t) ht (va_up_self _ _ _) rfl rfl (Nat.le_of_ble_eq_true rfl) (eGroup_set _ _ 2 (by decide)) dX0_begin_12 ?_
  rw [va_up_up]
  refine zr_aload_n X 0 dX0_begin_15 rfl rfl ?_
  refine zr_iload X 4 dX0_begin_16 rfl ?_
  refine zr_put X zfd_RX0_21 zty_0_3 (t) ht (va_up_self _ _ _) rfl rfl (Nat.le_of_ble_eq_true rfl) (eGroup_set _ _ 3 (by decide)) dX0_begin_18 ?_
  rw [va_up_up]
  refine zr_aload_n X 0 dX0_begin_21 rfl rfl ?_
  refine zr_iconst X (v := 0) dX0_begin_22 (by decide) ?_
  refine zr_put X zfd_RX0_24 zty_0_4 (t) ht (va_up_self _ _ _) rfl rfl (Nat.le_of_ble_eq_true rfl) (eGroup_set _ _ 4 (by decide)) dX0_begin_23 ?_
  rw [va_up_up]
  refine zr_aload_n X 0 dX0_begin_26 rfl rfl ?_
  refine zr_iconst X (v := 0) dX0_begin_27 (by decide) ?_
  refine zr_put X zfd_RX0_27 zty_0_5 (t) ht (va_up_self _ _ _) rfl rfl (Nat.le_of_ble_eq_true rfl) (eGroup_set _ _ 5 (by decide)) dX0_begin_28 ?_
  rw [va_up_up]
  exact zret_v E rfl dX0_begin_31 rfl
set_option maxHeartbeats 4000000 in
set_option maxRecDepth 100000 in
theorem k_Group_loavesADay {l : Launch} {D : va_G} {cy : Nat → ClassId} {w : zW} {f : zF} {t : Nat} {v : Nat → Int32}  (ht : t < w.1) (hf : f t = eGroup v)  : zSd l D cy yX0_loavesADay cX0_loavesADay 1 (some .int) 0 0 [.ref (w.2 (t))] w f (some (.int ((v 1 + 1) / 2))) f := by
  refine zSd.intro (by decide) (Nat.le_of_ble_eq_true rfl) (fun G X E => ?_)
  show G (w, 0, 0) f [(0, .ref (w.2 (t)))] 0 []
  refine zr_aload_n X 0 dX0_loavesADay_0 rfl rfl ?_
  refine zr_get X zfd_RX0_15 (t) ht hf (v := .int (v 1)) rfl dX0_loavesADay_1 ?_
  refine zr_iconst X (v := 1) dX0_loavesADay_4 (by decide) ?_
  refine zr_iadd X dX0_loavesADay_5 ?_
  refine zr_iconst X (v := 2) dX0_loavesADay_6 (by decide) ?_
  refine zr_idiv X dX0_loavesADay_7 (by decide) ?_
  exact zret_i E rfl dX0_loavesADay_8 (by simp only []) rfl
def gThere (v : Nat → Int32) (d : Int32) : Int32 := if d < v 2 then 0 else if v 2 + v 3 ≤ d then 0 else 1
def gGone (v : Nat → Int32) (d : Int32) : Int32 := if d < v 2 + v 3 then 0 else 1
set_option maxHeartbeats 4000000 in
set_option maxRecDepth 100000 in
theorem k_Group_isThereOn {l : Launch} {D : va_G} {cy : Nat → ClassId} {w : zW} {f : zF} {t : Nat} {v : Nat → Int32} {d : Int32} (ht : t < w.1) (hf : f t = eGroup v)  : zSd l D cy yX0_isThereOn cX0_isThereOn 2 (some .boolean) 0 0 [.ref (w.2 (t)), .int (d)] w f (some (.int (gThere v d))) f := by
  refine zSd.intro (by decide) (Nat.le_of_ble_eq_true rfl) (fun G X E => ?_)
  show G (w, 0, 0) f [(0, .ref (w.2 (t))), (1, .int (d))] 0 []
  refine zr_iload_n X 1 dX0_isThereOn_0 rfl rfl ?_
  refine zr_aload_n X 0 dX0_isThereOn_1 rfl rfl ?_
  refine zr_get X zfd_RX0_18 (t) ht hf (v := .int (v 2)) rfl dX0_isThereOn_2 ?_
  refine zr_icmp_lt X (tgt := 25) dX0_isThereOn_5 (by decide) (fun h1 => ?_) (fun h2 => ?_)
  · refine zr_iconst X (v := 0) dX0_isThereOn_25 (by decide) ?_
    exact zret_z E rfl (Or.inl rfl) dX0_isThereOn_26 (by simp only [gThere, if_pos h1]) rfl
  · refine zr_iload_n X 1 dX0_isThereOn_8 rfl rfl ?_
    refine zr_aload_n X 0 dX0_isThereOn_9 rfl rfl ?_
    refine zr_get X zfd_RX0_18 (t) ht hf (v := .int (v 2)) rfl dX0_isThereOn_10 ?_
    refine zr_aload_n X 0 dX0_isThereOn_13 rfl rfl ?_
    refine zr_get X zfd_RX0_21 (t) ht hf (v := .int (v 3)) rfl dX0_isThereOn_14 ?_
    refine zr_iadd X dX0_isThereOn_17 ?_
    refine zr_icmp_ge X (tgt := 25) dX0_isThereOn_18 (by decide) (fun h3 => ?_) (fun h4 => ?_)
    · refine zr_iconst X (v := 0) dX0_isThereOn_25 (by decide) ?_
      exact zret_z E rfl (Or.inl rfl) dX0_isThereOn_26 (by simp only [gThere, if_neg h2, if_pos h3]) rfl
    · refine zr_iconst X (v := 1) dX0_isThereOn_21 (by decide) ?_
      refine zr_goto X (tgt := 26) dX0_isThereOn_22 (by decide) ?_
      exact zret_z E rfl (Or.inr rfl) dX0_isThereOn_26 (by simp only [gThere, if_neg h2, if_neg h4]) rfl
set_option maxHeartbeats 4000000 in
set_option maxRecDepth 100000 in
theorem k_Group_isGoneBy {l : Launch} {D : va_G} {cy : Nat → ClassId} {w : zW} {f : zF} {t : Nat} {v : Nat → Int32} {d : Int32} (ht : t < w.1) (hf : f t = eGroup v)  : zSd l D cy yX0_isGoneBy cX0_isGoneBy 2 (some .boolean) 0 0 [.ref (w.2 (t)), .int (d)] w f (some (.int (gGone v d))) f := by
  refine zSd.intro (by decide) (Nat.le_of_ble_eq_true rfl) (fun G X E => ?_)
  show G (w, 0, 0) f [(0, .ref (w.2 (t))), (1, .int (d))] 0 []
  refine zr_iload_n X 1 dX0_isGoneBy_0 rfl rfl ?_
  refine zr_aload_n X 0 dX0_isGoneBy_1 rfl rfl ?_
  refine zr_get X zfd_RX0_18 (t) ht hf (v := .int (v 2)) rfl dX0_isGoneBy_2 ?_
  refine zr_aload_n X 0 dX0_isGoneBy_5 rfl rfl ?_
  refine zr_get X zfd_RX0_21 (t) ht hf (v := .int (v 3)) rfl dX0_isGoneBy_6 ?_
  refine zr_iadd X dX0_isGoneBy_9 ?_
  refine zr_icmp_lt X (tgt := 17) dX0_isGoneBy_10 (by decide) (fun h1 => ?_) (fun h2 => ?_)
  · refine zr_iconst X (v := 0) dX0_isGoneBy_17 (by decide) ?_
    exact zret_z E rfl (Or.inl rfl) dX0_isGoneBy_18 (by simp only [gGone, if_pos h1]) rfl
  · refine zr_iconst X (v := 1) dX0_isGoneBy_13 (by decide) ?_
    refine zr_goto X (tgt := 18) dX0_isGoneBy_14 (by decide) ?_
    exact zret_z E rfl (Or.inr rfl) dX0_isGoneBy_18 (by simp only [gGone, if_neg h2]) rfl
def gTell (v : Nat → Int32) (x d : Int32) : Int32 := if x = 0 then v 1 else if x = 1 then v 2 else if x = 2 then v 3 else if x = 3 then (v 1 + 1) / 2 else if x = 4 then (if gThere v d = 0 then 0 else 1) else if x = 5 then v 4 else if x = 6 then v 5 else (-1000001)
set_option maxHeartbeats 4000000 in
set_option maxRecDepth 100000 in
theorem k_Group_tell {l : Launch} {D : va_G} {cy : Nat → ClassId} {w : zW} {f : zF} {t : Nat} {v : Nat → Int32} {x : Int32} {d : Int32} (ht : t < w.1) (hf : f t = eGroup v)  : zSd l D cy yX0_tell cX0_tell 3 (some .int) 1 21 [.ref (w.2 (t)), .int (x), .int (d)] w f (some (.int (gTell v x d))) f := by
  refine zSd.intro (by decide) (Nat.le_of_ble_eq_true rfl) (fun G X E => ?_)
  show G (w, 0, 0) f [(0, .ref (w.2 (t))), (1, .int (x)), (2, .int (d))] 0 []
  refine zr_iload_n X 1 dX0_tell_0 rfl rfl ?_
  by_cases h1 : x = 0
  · refine zr_tableIn X (off := 43) (tgt := 44) dX0_tell_1 (by rw [h1]; decide) (by rw [h1]; decide) (by rw [h1]; decide) (by decide) ?_
    refine zr_aload_n X 0 dX0_tell_44 rfl rfl ?_
    refine zr_get X zfd_RX0_15 (t) ht hf (v := .int (v 1)) rfl dX0_tell_45 ?_
    exact zret_i E rfl dX0_tell_48 (by simp only [gTell, if_pos h1]) rfl
  by_cases h2 : x = 1
  · refine zr_tableIn X (off := 48) (tgt := 49) dX0_tell_1 (by rw [h2]; decide) (by rw [h2]; decide) (by rw [h2]; decide) (by decide) ?_
    refine zr_aload_n X 0 dX0_tell_49 rfl rfl ?_
    refine zr_get X zfd_RX0_18 (t) ht hf (v := .int (v 2)) rfl dX0_tell_50 ?_
    exact zret_i E rfl dX0_tell_53 (by simp only [gTell, if_neg h1, if_pos h2]) rfl
  by_cases h3 : x = 2
  · refine zr_tableIn X (off := 53) (tgt := 54) dX0_tell_1 (by rw [h3]; decide) (by rw [h3]; decide) (by rw [h3]; decide) (by decide) ?_
    refine zr_aload_n X 0 dX0_tell_54 rfl rfl ?_
    refine zr_get X zfd_RX0_21 (t) ht hf (v := .int (v 3)) rfl dX0_tell_55 ?_
    exact zret_i E rfl dX0_tell_58 (by simp only [gTell, if_neg h1, if_neg h2, if_pos h3]) rfl
  by_cases h4 : x = 3
  · refine zr_tableIn X (off := 58) (tgt := 59) dX0_tell_1 (by rw [h4]; decide) (by rw [h4]; decide) (by rw [h4]; decide) (by decide) ?_
    refine zr_aload_n X 0 dX0_tell_59 rfl rfl ?_
    refine zr_cV X (As := []) (rest := []) (f' := f) (st' := [.int ((v 1 + 1) / 2)]) zc_X0_loavesADay (t) ht hf (q9 := _) rfl rfl (k_Group_loavesADay ht hf) ⟨Nat.le_of_ble_eq_true rfl, Nat.le_of_ble_eq_true rfl⟩ ⟨Nat.le_refl _, Nat.le_refl _⟩ rfl (Nat.le_of_ble_eq_true rfl) zm_3_22 rfl dX0_tell_60 rfl ?_
    exact zret_i E rfl dX0_tell_63 (by simp only [gTell, if_neg h1, if_neg h2, if_neg h3, if_pos h4]) rfl
  by_cases h5 : x = 4
  · refine zr_tableIn X (off := 63) (tgt := 64) dX0_tell_1 (by rw [h5]; decide) (by rw [h5]; decide) (by rw [h5]; decide) (by decide) ?_
    refine zr_aload_n X 0 dX0_tell_64 rfl rfl ?_
    refine zr_iload_n X 2 dX0_tell_65 rfl rfl ?_
    refine zr_cV X (As := [.int (d)]) (rest := []) (f' := f) (st' := [.int (gThere v d)]) zc_X0_isThereOn (t) ht hf (q9 := _) rfl rfl (k_Group_isThereOn ht hf) ⟨Nat.le_of_ble_eq_true rfl, Nat.le_of_ble_eq_true rfl⟩ ⟨Nat.le_refl _, Nat.le_refl _⟩ rfl (Nat.le_of_ble_eq_true rfl) zm_3_23 rfl dX0_tell_66 rfl ?_
    refine zr_if_eq X (tgt := 76) dX0_tell_69 (by decide) (fun h6 => ?_) (fun h7 => ?_)
    · refine zr_iconst X (v := 0) dX0_tell_76 (by decide) ?_
      exact zret_i E rfl dX0_tell_77 (by simp only [gTell, if_neg h1, if_neg h2, if_neg h3, if_neg h4, if_pos h5, if_pos h6]) rfl
    · refine zr_iconst X (v := 1) dX0_tell_72 (by decide) ?_
      refine zr_goto X (tgt := 77) dX0_tell_73 (by decide) ?_
      exact zret_i E rfl dX0_tell_77 (by simp only [gTell, if_neg h1, if_neg h2, if_neg h3, if_neg h4, if_pos h5, if_neg h7]) rfl
  by_cases h8 : x = 5
  · refine zr_tableIn X (off := 77) (tgt := 78) dX0_tell_1 (by rw [h8]; decide) (by rw [h8]; decide) (by rw [h8]; decide) (by decide) ?_
    refine zr_aload_n X 0 dX0_tell_78 rfl rfl ?_
    refine zr_get X zfd_RX0_24 (t) ht hf (v := .int (v 4)) rfl dX0_tell_79 ?_
    exact zret_i E rfl dX0_tell_82 (by simp only [gTell, if_neg h1, if_neg h2, if_neg h3, if_neg h4, if_neg h5, if_pos h8]) rfl
  by_cases h9 : x = 6
  · refine zr_tableIn X (off := 82) (tgt := 83) dX0_tell_1 (by rw [h9]; decide) (by rw [h9]; decide) (by rw [h9]; decide) (by decide) ?_
    refine zr_aload_n X 0 dX0_tell_83 rfl rfl ?_
    refine zr_get X zfd_RX0_27 (t) ht hf (v := .int (v 5)) rfl dX0_tell_84 ?_
    exact zret_i E rfl dX0_tell_87 (by simp only [gTell, if_neg h1, if_neg h2, if_neg h3, if_neg h4, if_neg h5, if_neg h8, if_pos h9]) rfl
  refine zr_tableOut X (tgt := 88) dX0_tell_1 (by have e0 := lv_neT h1 (show (0 : Int32).toInt = 0 from by decide); have e1 := lv_neT h2 (show (1 : Int32).toInt = 1 from by decide); have e2 := lv_neT h3 (show (2 : Int32).toInt = 2 from by decide); have e3 := lv_neT h4 (show (3 : Int32).toInt = 3 from by decide); have e4 := lv_neT h5 (show (4 : Int32).toInt = 4 from by decide); have e5 := lv_neT h8 (show (5 : Int32).toInt = 5 from by decide); have e6 := lv_neT h9 (show (6 : Int32).toInt = 6 from by decide); omega) (by decide) ?_
  refine zr_ldc X zm_3_24 dX0_tell_88 ?_
  exact zret_i E rfl dX0_tell_90 (by simp only [gTell, if_neg h1, if_neg h2, if_neg h3, if_neg h4, if_neg h5, if_neg h8, if_neg h9]) rfl
set_option maxHeartbeats 4000000 in
set_option maxRecDepth 100000 in
theorem k_Ledger_wasted {l : Launch} {D : va_G} {cy : Nat → ClassId} {w : zW} {f : zF} {t : Nat} {v : Nat → Int32}  (ht : t < w.1) (hf : f t = eLedger v)  : zSd l D cy yX3_wasted cX3_wasted 1 (some .int) 0 0 [.ref (w.2 (t))] w f (some (.int (v 4 + v 5))) f := by
  refine zSd.intro (by decide) (Nat.le_of_ble_eq_true rfl) (fun G X E => ?_)
  show G (w, 0, 0) f [(0, .ref (w.2 (t)))] 0 []
  refine zr_aload_n X 0 dX3_wasted_0 rfl rfl ?_
  refine zr_get X zfd_RX3_22 (t) ht hf (v := .int (v 4)) rfl dX3_wasted_1 ?_
  refine zr_aload_n X 0 dX3_wasted_4 rfl rfl ?_
  refine zr_get X zfd_RX3_25 (t) ht hf (v := .int (v 5)) rfl dX3_wasted_5 ?_
  refine zr_iadd X dX3_wasted_8 ?_
  exact zret_i E rfl dX3_wasted_9 (by simp only []) rfl
def sTell (v : Nat → Int32) (x : Int32) : Int32 := if x = 0 then v 0 else if x = 1 then v 1 else if x = 2 then v 2 else if x = 3 then v 3 else (-1000001)
set_option maxHeartbeats 4000000 in
set_option maxRecDepth 100000 in
theorem k_Sett_tell {l : Launch} {D : va_G} {cy : Nat → ClassId} {w : zW} {f : zF} {t : Nat} {v : Nat → Int32} {x : Int32} (ht : t < w.1) (hf : f t = eSett v)  : zSd l D cy yX6_tell cX6_tell 2 (some .int) 0 0 [.ref (w.2 (t)), .int (x)] w f (some (.int (sTell v x))) f := by
  refine zSd.intro (by decide) (Nat.le_of_ble_eq_true rfl) (fun G X E => ?_)
  show G (w, 0, 0) f [(0, .ref (w.2 (t))), (1, .int (x))] 0 []
  refine zr_iload_n X 1 dX6_tell_0 rfl rfl ?_
  by_cases h1 : x = 0
  · refine zr_tableIn X (off := 31) (tgt := 32) dX6_tell_1 (by rw [h1]; decide) (by rw [h1]; decide) (by rw [h1]; decide) (by decide) ?_
    refine zr_aload_n X 0 dX6_tell_32 rfl rfl ?_
    refine zr_get X zfd_RX6_9 (t) ht hf (v := .int (v 0)) rfl dX6_tell_33 ?_
    exact zret_i E rfl dX6_tell_36 (by simp only [sTell, if_pos h1]) rfl
  by_cases h2 : x = 1
  · refine zr_tableIn X (off := 36) (tgt := 37) dX6_tell_1 (by rw [h2]; decide) (by rw [h2]; decide) (by rw [h2]; decide) (by decide) ?_
    refine zr_aload_n X 0 dX6_tell_37 rfl rfl ?_
    refine zr_get X zfd_RX6_15 (t) ht hf (v := .int (v 1)) rfl dX6_tell_38 ?_
    exact zret_i E rfl dX6_tell_41 (by simp only [sTell, if_neg h1, if_pos h2]) rfl
  by_cases h3 : x = 2
  · refine zr_tableIn X (off := 41) (tgt := 42) dX6_tell_1 (by rw [h3]; decide) (by rw [h3]; decide) (by rw [h3]; decide) (by decide) ?_
    refine zr_aload_n X 0 dX6_tell_42 rfl rfl ?_
    refine zr_get X zfd_RX6_18 (t) ht hf (v := .int (v 2)) rfl dX6_tell_43 ?_
    exact zret_i E rfl dX6_tell_46 (by simp only [sTell, if_neg h1, if_neg h2, if_pos h3]) rfl
  by_cases h4 : x = 3
  · refine zr_tableIn X (off := 46) (tgt := 47) dX6_tell_1 (by rw [h4]; decide) (by rw [h4]; decide) (by rw [h4]; decide) (by decide) ?_
    refine zr_aload_n X 0 dX6_tell_47 rfl rfl ?_
    refine zr_get X zfd_RX6_21 (t) ht hf (v := .int (v 3)) rfl dX6_tell_48 ?_
    exact zret_i E rfl dX6_tell_51 (by simp only [sTell, if_neg h1, if_neg h2, if_neg h3, if_pos h4]) rfl
  refine zr_tableOut X (tgt := 52) dX6_tell_1 (by have e0 := lv_neT h1 (show (0 : Int32).toInt = 0 from by decide); have e1 := lv_neT h2 (show (1 : Int32).toInt = 1 from by decide); have e2 := lv_neT h3 (show (2 : Int32).toInt = 2 from by decide); have e3 := lv_neT h4 (show (3 : Int32).toInt = 3 from by decide); omega) (by decide) ?_
  refine zr_ldc X zm_2_236 dX6_tell_52 ?_
  exact zret_i E rfl dX6_tell_54 (by simp only [sTell, if_neg h1, if_neg h2, if_neg h3, if_neg h4]) rfl
def zwin (v lo hi : Int32) : Int32 := if v < lo then 0 else if hi < v then 0 else 1
set_option maxHeartbeats 4000000 in
set_option maxRecDepth 100000 in
theorem k_isWithin {l : Launch} {D : va_G} {cy : Nat → ClassId} {w : zW} {f : zF} {v lo hi : Int32}  : zSd l D cy yX8_isWithin cX8_isWithin 3 (some .boolean) 0 0 [.int (v), .int (lo), .int (hi)] w f (some (.int (zwin v lo hi))) f := by
  refine zSd.intro (by decide) (Nat.le_of_ble_eq_true rfl) (fun G X E => ?_)
  show G (w, 0, 0) f [(0, .int (v)), (1, .int (lo)), (2, .int (hi))] 0 []
  refine zr_iload_n X 0 dX8_isWithin_0 rfl rfl ?_
  refine zr_iload_n X 1 dX8_isWithin_1 rfl rfl ?_
  refine zr_icmp_lt X (tgt := 14) dX8_isWithin_2 (by decide) (fun h1 => ?_) (fun h2 => ?_)
  · refine zr_iconst X (v := 0) dX8_isWithin_14 (by decide) ?_
    exact zret_z E rfl (Or.inl rfl) dX8_isWithin_15 (by simp only [zwin, if_pos h1]) rfl
  · refine zr_iload_n X 0 dX8_isWithin_5 rfl rfl ?_
    refine zr_iload_n X 2 dX8_isWithin_6 rfl rfl ?_
    refine zr_icmp_gt X (tgt := 14) dX8_isWithin_7 (by decide) (fun h3 => ?_) (fun h4 => ?_)
    · refine zr_iconst X (v := 0) dX8_isWithin_14 (by decide) ?_
      exact zret_z E rfl (Or.inl rfl) dX8_isWithin_15 (by simp only [zwin, if_neg h2, if_pos h3]) rfl
    · refine zr_iconst X (v := 1) dX8_isWithin_10 (by decide) ?_
      refine zr_goto X (tgt := 15) dX8_isWithin_11 (by decide) ?_
      exact zret_z E rfl (Or.inr rfl) dX8_isWithin_15 (by simp only [zwin, if_neg h2, if_neg h4]) rfl
set_option maxHeartbeats 4000000 in
set_option maxRecDepth 100000 in
theorem k_in {l : Launch} {D : va_G} {cy : Nat → ClassId} {w : zW} {f : zF} {v lo hi : Int32}  : zSd l D cy yX9_in cX9_in 3 (some .boolean) 0 0 [.int (v), .int (lo), .int (hi)] w f (some (.int (zwin v lo hi))) f := by
  refine zSd.intro (by decide) (Nat.le_of_ble_eq_true rfl) (fun G X E => ?_)
  show G (w, 0, 0) f [(0, .int (v)), (1, .int (lo)), (2, .int (hi))] 0 []
  refine zr_iload_n X 0 dX9_in_0 rfl rfl ?_
  refine zr_iload_n X 1 dX9_in_1 rfl rfl ?_
  refine zr_icmp_lt X (tgt := 14) dX9_in_2 (by decide) (fun h1 => ?_) (fun h2 => ?_)
  · refine zr_iconst X (v := 0) dX9_in_14 (by decide) ?_
    exact zret_z E rfl (Or.inl rfl) dX9_in_15 (by simp only [zwin, if_pos h1]) rfl
  · refine zr_iload_n X 0 dX9_in_5 rfl rfl ?_
    refine zr_iload_n X 2 dX9_in_6 rfl rfl ?_
    refine zr_icmp_gt X (tgt := 14) dX9_in_7 (by decide) (fun h3 => ?_) (fun h4 => ?_)
    · refine zr_iconst X (v := 0) dX9_in_14 (by decide) ?_
      exact zret_z E rfl (Or.inl rfl) dX9_in_15 (by simp only [zwin, if_neg h2, if_pos h3]) rfl
    · refine zr_iconst X (v := 1) dX9_in_10 (by decide) ?_
      refine zr_goto X (tgt := 15) dX9_in_11 (by decide) ?_
      exact zret_z E rfl (Or.inr rfl) dX9_in_15 (by simp only [zwin, if_neg h2, if_neg h4]) rfl
def zmin (a b : Int32) : Int32 := if b ≤ a then b else a
set_option maxHeartbeats 4000000 in
set_option maxRecDepth 100000 in
theorem k_lesser {l : Launch} {D : va_G} {cy : Nat → ClassId} {w : zW} {f : zF} {a b : Int32}  : zSd l D cy yX9_lesser cX9_lesser 2 (some .int) 0 0 [.int (a), .int (b)] w f (some (.int (zmin a b))) f := by
  refine zSd.intro (by decide) (Nat.le_of_ble_eq_true rfl) (fun G X E => ?_)
  show G (w, 0, 0) f [(0, .int (a)), (1, .int (b))] 0 []
  refine zr_iload_n X 0 dX9_lesser_0 rfl rfl ?_
  refine zr_iload_n X 1 dX9_lesser_1 rfl rfl ?_
  refine zr_icmp_ge X (tgt := 9) dX9_lesser_2 (by decide) (fun h1 => ?_) (fun h2 => ?_)
  · refine zr_iload_n X 1 dX9_lesser_9 rfl rfl ?_
    exact zret_i E rfl dX9_lesser_10 (by simp only [zmin, if_pos h1]) rfl
  · refine zr_iload_n X 0 dX9_lesser_5 rfl rfl ?_
    refine zr_goto X (tgt := 10) dX9_lesser_6 (by decide) ?_
    exact zret_i E rfl dX9_lesser_10 (by simp only [zmin, if_neg h2]) rfl
end
section
def shMany (a : Nat → Int32) (y o : Int32) (n : Nat) : Int32 := zfold (fun k m => if nI k < y then m else if o < nI k then m else m + a k) 0 n
set_option maxHeartbeats 4000000 in
set_option maxRecDepth 100000 in
theorem k_Shelf_howMany {l : Launch} {D : va_G} {cy : Nat → ClassId} {w : zW} {f : zF} {t u : Nat} {a : Nat → Int32} {y : Int32} {o : Int32} (ht : t < w.1) (hu : u < w.1) (hf : f t = .inr (7, [.ref (w.2 u)])) (hfu : f u = eInts cy 21 a) (hne : t ≠ u) : zSd l D cy yX7_howMany cX7_howMany 5 (some .int) 0 0 [.ref (w.2 (t)), .int (y), .int (o)] w f (some (.int (shMany a y o 21))) f := by
  refine zSd.intro (by decide) (Nat.le_of_ble_eq_true rfl) (fun G X E => ?_)
  show G (w, 0, 0) f [(0, .ref (w.2 (t))), (1, .int (y)), (2, .int (o))] 0 []
  refine zr_iconst X (v := 0) dX7_howMany_0 (by decide) ?_
  refine zr_istore_n X (ls' := [(3, .int (0)), (0, .ref (w.2 (t))), (1, .int (y)), (2, .int (o))]) dX7_howMany_1 rfl (by decide) rfl ?_
  refine zr_iconst X (v := 0) dX7_howMany_2 (by decide) ?_
  refine zr_istore X (ls' := [(4, .int (0)), (3, .int (0)), (0, .ref (w.2 (t))), (1, .int (y)), (2, .int (o))]) dX7_howMany_3 (by decide) rfl ?_
  refine zr_loc X (ls' := [(0, .ref (w.2 (t))), (1, .int (y)), (2, .int (o)), (3, .int (0)), (4, .int (0))]) [2, 3, 4, 1, 0] rfl ?_
  refine zcast (f2 := f) (ls2 := [(0, .ref (w.2 (t))), (1, .int (y)), (2, .int (o)), (3, .int (shMany a y o (0))), (4, .int (nI (0)))]) rfl rfl ?_
  refine zdown (P := fun n => G (w, 0, 0) (f) [(0, .ref (w.2 (t))), (1, .int (y)), (2, .int (o)), (3, .int (shMany a y o (n))), (4, .int (nI (n)))] 5 []) (B := 21) ?_ (fun n hn5 ih5 => ?_) 0 (Nat.zero_le _) 
  · show G (w, 0, 0) (f) [(0, .ref (w.2 (t))), (1, .int (y)), (2, .int (o)), (3, .int (shMany a y o (21))), (4, .int (nI (21)))] 5 []
    refine zr_iload X 4 dX7_howMany_5 rfl ?_
    refine zr_aload_n X 0 dX7_howMany_7 rfl rfl ?_
    refine zr_get X zfd_RX7_9 (t) ht hf (v := .ref (w.2 (u))) rfl dX7_howMany_8 ?_
    refine zr_alen X (u) hu (b := 0) rfl hfu (v := 21) rfl dX7_howMany_11 ?_
    refine zr_icmp_ge X (tgt := 43) dX7_howMany_12 (by decide) (fun _ => ?_) (fun h => False.elim (h (by decide)))
    refine zr_iload_n X 3 dX7_howMany_43 rfl rfl ?_
    exact zret_i E rfl dX7_howMany_44 (by simp only []) rfl
  · show G (w, 0, 0) (f) [(0, .ref (w.2 (t))), (1, .int (y)), (2, .int (o)), (3, .int (shMany a y o (n))), (4, .int (nI (n)))] 5 []
    refine zr_iload X 4 dX7_howMany_5 rfl ?_
    refine zr_aload_n X 0 dX7_howMany_7 rfl rfl ?_
    refine zr_get X zfd_RX7_9 (t) ht hf (v := .ref (w.2 (u))) rfl dX7_howMany_8 ?_
    refine zr_alen X (u) hu (b := 0) rfl hfu (v := 21) rfl dX7_howMany_11 ?_
    refine zr_icmp_ge X (tgt := 43) dX7_howMany_12 (by decide) (fun h => False.elim (nI_ge hn5 (by decide) h)) (fun _ => ?_)
    refine zr_iload X 4 dX7_howMany_15 rfl ?_
    refine zr_iload_n X 1 dX7_howMany_17 rfl rfl ?_
    refine zr_icmp_lt X (tgt := 37) dX7_howMany_18 (by decide) (fun h1 => ?_) (fun h2 => ?_)
    · refine zr_iinc X (v := nI (n + 1)) (ls' := [(4, .int (nI (n + 1))), (0, .ref (w.2 (t))), (1, .int (y)), (2, .int (o)), (3, .int (shMany a y o (n)))]) 4 dX7_howMany_37 rfl (zinc1 _) (by decide) rfl ?_
      refine zr_goto X (tgt := 5) dX7_howMany_40 (by decide) ?_
      refine zr_loc X (ls' := [(0, .ref (w.2 (t))), (1, .int (y)), (2, .int (o)), (3, .int (shMany a y o (n))), (4, .int (nI (n + 1)))]) [1, 2, 3, 4, 0] rfl ?_
      exact zcast (f2 := f) (ls2 := [(0, .ref (w.2 (t))), (1, .int (y)), (2, .int (o)), (3, .int (shMany a y o (n + 1))), (4, .int (nI (n + 1)))]) rfl (by simp only [if_pos h1, shMany, zfold]) ih5
    · refine zr_iload X 4 dX7_howMany_21 rfl ?_
      refine zr_iload_n X 2 dX7_howMany_23 rfl rfl ?_
      refine zr_icmp_gt X (tgt := 37) dX7_howMany_24 (by decide) (fun h3 => ?_) (fun h4 => ?_)
      · refine zr_iinc X (v := nI (n + 1)) (ls' := [(4, .int (nI (n + 1))), (0, .ref (w.2 (t))), (1, .int (y)), (2, .int (o)), (3, .int (shMany a y o (n)))]) 4 dX7_howMany_37 rfl (zinc1 _) (by decide) rfl ?_
        refine zr_goto X (tgt := 5) dX7_howMany_40 (by decide) ?_
        refine zr_loc X (ls' := [(0, .ref (w.2 (t))), (1, .int (y)), (2, .int (o)), (3, .int (shMany a y o (n))), (4, .int (nI (n + 1)))]) [1, 2, 3, 4, 0] rfl ?_
        exact zcast (f2 := f) (ls2 := [(0, .ref (w.2 (t))), (1, .int (y)), (2, .int (o)), (3, .int (shMany a y o (n + 1))), (4, .int (nI (n + 1)))]) rfl (by simp only [if_neg h2, if_pos h3, shMany, zfold]) ih5
      · refine zr_iload_n X 3 dX7_howMany_27 rfl rfl ?_
        refine zr_aload_n X 0 dX7_howMany_28 rfl rfl ?_
        refine zr_get X zfd_RX7_9 (t) ht hf (v := .ref (w.2 (u))) rfl dX7_howMany_29 ?_
        refine zr_iload X 4 dX7_howMany_32 rfl ?_
        refine zr_iald X (u) hu hfu (n) (rfl) (by omega) (by decide) dX7_howMany_34 ?_
        refine zr_iadd X dX7_howMany_35 ?_
        refine zr_istore_n X (ls' := [(3, .int ((shMany a y o (n)) + (a n))), (0, .ref (w.2 (t))), (1, .int (y)), (2, .int (o)), (4, .int (nI (n)))]) dX7_howMany_36 rfl (by decide) rfl ?_
        refine zr_iinc X (v := nI (n + 1)) (ls' := [(4, .int (nI (n + 1))), (3, .int ((shMany a y o (n)) + (a n))), (0, .ref (w.2 (t))), (1, .int (y)), (2, .int (o))]) 4 dX7_howMany_37 rfl (zinc1 _) (by decide) rfl ?_
        refine zr_goto X (tgt := 5) dX7_howMany_40 (by decide) ?_
        refine zr_loc X (ls' := [(0, .ref (w.2 (t))), (1, .int (y)), (2, .int (o)), (3, .int ((shMany a y o (n)) + (a n))), (4, .int (nI (n + 1)))]) [2, 3, 4, 1, 0] rfl ?_
        exact zcast (f2 := f) (ls2 := [(0, .ref (w.2 (t))), (1, .int (y)), (2, .int (o)), (3, .int (shMany a y o (n + 1))), (4, .int (nI (n + 1)))]) rfl (by simp only [if_neg h2, if_neg h4, shMany, zfold]) ih5
def shAges (a : Nat → Int32) (n : Nat) : Int32 := zfold (fun k m => m + nI k * a k) 0 n
set_option maxHeartbeats 4000000 in
set_option maxRecDepth 100000 in
theorem k_Shelf_agesTogether {l : Launch} {D : va_G} {cy : Nat → ClassId} {w : zW} {f : zF} {t u : Nat} {a : Nat → Int32}  (ht : t < w.1) (hu : u < w.1) (hf : f t = .inr (7, [.ref (w.2 u)])) (hfu : f u = eInts cy 21 a) (hne : t ≠ u) : zSd l D cy yX7_agesTogether cX7_agesTogether 3 (some .int) 0 0 [.ref (w.2 (t))] w f (some (.int (shAges a 21))) f := by
  refine zSd.intro (by decide) (Nat.le_of_ble_eq_true rfl) (fun G X E => ?_)
  show G (w, 0, 0) f [(0, .ref (w.2 (t)))] 0 []
  refine zr_iconst X (v := 0) dX7_agesTogether_0 (by decide) ?_
  refine zr_istore_n X (ls' := [(1, .int (0)), (0, .ref (w.2 (t)))]) dX7_agesTogether_1 rfl (by decide) rfl ?_
  refine zr_iconst X (v := 0) dX7_agesTogether_2 (by decide) ?_
  refine zr_istore_n X (ls' := [(2, .int (0)), (1, .int (0)), (0, .ref (w.2 (t)))]) dX7_agesTogether_3 rfl (by decide) rfl ?_
  refine zr_loc X (ls' := [(0, .ref (w.2 (t))), (1, .int (0)), (2, .int (0))]) [2, 1, 0] rfl ?_
  refine zcast (f2 := f) (ls2 := [(0, .ref (w.2 (t))), (1, .int (shAges a (0))), (2, .int (nI (0)))]) rfl rfl ?_
  refine zdown (P := fun n => G (w, 0, 0) (f) [(0, .ref (w.2 (t))), (1, .int (shAges a (n))), (2, .int (nI (n)))] 4 []) (B := 21) ?_ (fun n hn4 ih4 => ?_) 0 (Nat.zero_le _) 
  · show G (w, 0, 0) (f) [(0, .ref (w.2 (t))), (1, .int (shAges a (21))), (2, .int (nI (21)))] 4 []
    refine zr_iload_n X 2 dX7_agesTogether_4 rfl rfl ?_
    refine zr_aload_n X 0 dX7_agesTogether_5 rfl rfl ?_
    refine zr_get X zfd_RX7_9 (t) ht hf (v := .ref (w.2 (u))) rfl dX7_agesTogether_6 ?_
    refine zr_alen X (u) hu (b := 0) rfl hfu (v := 21) rfl dX7_agesTogether_9 ?_
    refine zr_icmp_ge X (tgt := 30) dX7_agesTogether_10 (by decide) (fun _ => ?_) (fun h => False.elim (h (by decide)))
    refine zr_iload_n X 1 dX7_agesTogether_30 rfl rfl ?_
    exact zret_i E rfl dX7_agesTogether_31 (by simp only []) rfl
  · show G (w, 0, 0) (f) [(0, .ref (w.2 (t))), (1, .int (shAges a (n))), (2, .int (nI (n)))] 4 []
    refine zr_iload_n X 2 dX7_agesTogether_4 rfl rfl ?_
    refine zr_aload_n X 0 dX7_agesTogether_5 rfl rfl ?_
    refine zr_get X zfd_RX7_9 (t) ht hf (v := .ref (w.2 (u))) rfl dX7_agesTogether_6 ?_
    refine zr_alen X (u) hu (b := 0) rfl hfu (v := 21) rfl dX7_agesTogether_9 ?_
    refine zr_icmp_ge X (tgt := 30) dX7_agesTogether_10 (by decide) (fun h => False.elim (nI_ge hn4 (by decide) h)) (fun _ => ?_)
    refine zr_iload_n X 1 dX7_agesTogether_13 rfl rfl ?_
    refine zr_iload_n X 2 dX7_agesTogether_14 rfl rfl ?_
    refine zr_aload_n X 0 dX7_agesTogether_15 rfl rfl ?_
    refine zr_get X zfd_RX7_9 (t) ht hf (v := .ref (w.2 (u))) rfl dX7_agesTogether_16 ?_
    refine zr_iload_n X 2 dX7_agesTogether_19 rfl rfl ?_
    refine zr_iald X (u) hu hfu (n) (rfl) (by omega) (by decide) dX7_agesTogether_20 ?_
    refine zr_imul X dX7_agesTogether_21 ?_
    refine zr_iadd X dX7_agesTogether_22 ?_
    refine zr_istore_n X (ls' := [(1, .int ((shAges a (n)) + ((nI (n)) * (a n)))), (0, .ref (w.2 (t))), (2, .int (nI (n)))]) dX7_agesTogether_23 rfl (by decide) rfl ?_
    refine zr_iinc X (v := nI (n + 1)) (ls' := [(2, .int (nI (n + 1))), (1, .int ((shAges a (n)) + ((nI (n)) * (a n)))), (0, .ref (w.2 (t)))]) 2 dX7_agesTogether_24 rfl (zinc1 _) (by decide) rfl ?_
    refine zr_goto X (tgt := 4) dX7_agesTogether_27 (by decide) ?_
    refine zr_loc X (ls' := [(0, .ref (w.2 (t))), (1, .int ((shAges a (n)) + ((nI (n)) * (a n)))), (2, .int (nI (n + 1)))]) [2, 1, 0] rfl ?_
    exact zcast (f2 := f) (ls2 := [(0, .ref (w.2 (t))), (1, .int (shAges a (n + 1))), (2, .int (nI (n + 1)))]) rfl rfl ih4
theorem zix1 {x : Int32} (h : ¬ x < 0) : x = nI x.toNatClampNeg := by
  obtain ⟨j, hj, rfl⟩ := nI_of h
  rw [nI_clamp hj]
theorem zix2 {x : Int32} {N : Nat} (h : ¬ x < 0) (hN : N < 2147483648) (h2 : ¬ nI N ≤ x) : x.toNatClampNeg < N := by
  obtain ⟨j, hj, rfl⟩ := nI_of h
  rw [nI_clamp hj]
  rw [nI_leI hN hj] at h2
  omega
def shStore (a : Nat → Int32) (g n : Int32) : Nat → Int32 := if g < 0 then a else if 21 ≤ g then a else upd a g.toNatClampNeg (a g.toNatClampNeg + n)
set_option maxHeartbeats 4000000 in
set_option maxRecDepth 100000 in
theorem k_Shelf_store {l : Launch} {D : va_G} {cy : Nat → ClassId} {w : zW} {f : zF} {t u : Nat} {a : Nat → Int32} {g : Int32} {n : Int32} (ht : t < w.1) (hu : u < w.1) (hf : f t = .inr (7, [.ref (w.2 u)])) (hfu : f u = eInts cy 21 a) (hne : t ≠ u) : zSd l D cy yX7_store cX7_store 3 none 0 0 [.ref (w.2 (t)), .int (g), .int (n)] w f none (va_up f u (eInts cy 21 (shStore a g n))) := by
  refine zSd.intro (by decide) (Nat.le_of_ble_eq_true rfl) (fun G X E => ?_)
  show G (w, 0, 0) f [(0, .ref (w.2 (t))), (1, .int (g)), (2, .int (n))] 0 []
  refine zr_iload_n X 1 dX7_store_0 rfl rfl ?_
  refine zr_if_lt X (tgt := 23) dX7_store_1 (by decide) (fun h1 => ?_) (fun h2 => ?_)
  · exact zret_v E rfl dX7_store_23 (zsame_up hfu (by simp only [shStore, if_pos h1]))
  · refine zr_iload_n X 1 dX7_store_4 rfl rfl ?_
    refine zr_aload_n X 0 dX7_store_5 rfl rfl ?_
    refine zr_get X zfd_RX7_9 (t) ht hf (v := .ref (w.2 (u))) rfl dX7_store_6 ?_
    refine zr_alen X (u) hu (b := 0) rfl hfu (v := 21) rfl dX7_store_9 ?_
    refine zr_icmp_ge X (tgt := 23) dX7_store_10 (by decide) (fun h3 => ?_) (fun h4 => ?_)
    · exact zret_v E rfl dX7_store_23 (zsame_up hfu (by simp only [shStore, if_neg h2, if_pos h3]))
    · refine zr_aload_n X 0 dX7_store_13 rfl rfl ?_
      refine zr_get X zfd_RX7_9 (t) ht hf (v := .ref (w.2 (u))) rfl dX7_store_14 ?_
      refine zr_iload_n X 1 dX7_store_17 rfl rfl ?_
      refine zr_dup2 X dX7_store_18 rfl rfl ?_
      refine zr_iald X (u) hu hfu (g.toNatClampNeg) (zix1 h2) (zix2 h2 (by decide) h4) (by decide) dX7_store_19 ?_
      refine zr_iload_n X 2 dX7_store_20 rfl rfl ?_
      refine zr_iadd X dX7_store_21 ?_
      refine zr_iast X (u) hu hfu (g.toNatClampNeg) (zix1 h2) (zix2 h2 (by decide) h4) (by decide) dX7_store_22 ?_
      exact zret_v E rfl dX7_store_23 (by simp only [shStore, if_neg h2, if_neg h4])
def shTakeS (y o : Int32) (k : Nat) (s : (Nat → Int32) × Int32) : (Nat → Int32) × Int32 := if nI k < y then s else if o < nI k then s else if s.1 k ≤ s.2 then (upd s.1 k (s.1 k - s.1 k), s.2 - s.1 k) else (upd s.1 k (s.1 k - s.2), s.2 - s.2)
def shTake (a : Nat → Int32) (y o n : Int32) (k : Nat) : (Nat → Int32) × Int32 := zfold (fun i s => shTakeS y o (20 - i) s) (a, n) k
theorem shTake_s {a : Nat → Int32} {y o n : Int32} {k : Nat} : shTake a y o n (k + 1) = shTakeS y o (20 - k) (shTake a y o n k) := rfl
set_option maxHeartbeats 4000000 in
set_option maxRecDepth 100000 in
theorem k_Shelf_take {l : Launch} {D : va_G} {cy : Nat → ClassId} {w : zW} {f : zF} {t u : Nat} {a : Nat → Int32} {y : Int32} {o : Int32} {n : Int32} (ht : t < w.1) (hu : u < w.1) (hf : f t = .inr (7, [.ref (w.2 u)])) (hfu : f u = eInts cy 21 a) (hne : t ≠ u) : zSd l D cy yX7_take cX7_take 7 (some .int) 0 0 [.ref (w.2 (t)), .int (y), .int (o), .int (n)] w f (some (.int (n - (shTake a y o n 21).2))) (va_up f u (eInts cy 21 (shTake a y o n 21).1)) := by
  refine zSd.intro (by decide) (Nat.le_of_ble_eq_true rfl) (fun G X E => ?_)
  show G (w, 0, 0) f [(0, .ref (w.2 (t))), (1, .int (y)), (2, .int (o)), (3, .int (n))] 0 []
  refine zr_iload_n X 3 dX7_take_0 rfl rfl ?_
  refine zr_istore X (ls' := [(4, .int (n)), (0, .ref (w.2 (t))), (1, .int (y)), (2, .int (o)), (3, .int (n))]) dX7_take_1 (by decide) rfl ?_
  refine zr_aload_n X 1 dX7_take_3 rfl rfl ?_
  refine zr_get X zfd_RX7_9 (t) ht hf (v := .ref (w.2 (u))) rfl dX7_take_4 ?_
  refine zr_alen X (u) hu (b := 0) rfl hfu (v := 21) rfl dX7_take_7 ?_
  refine zr_iconst X (v := 1) dX7_take_8 (by decide) ?_
  refine zr_isub X dX7_take_9 ?_
  refine zr_istore X (ls' := [(5, .int (21 - 1)), (4, .int (n)), (0, .ref (w.2 (t))), (1, .int (y)), (2, .int (o)), (3, .int (n))]) dX7_take_10 (by decide) rfl ?_
  refine zr_loc X (ls' := [(0, .ref (w.2 (t))), (1, .int (y)), (2, .int (o)), (3, .int (n)), (4, .int (n)), (5, .int (21 - 1))]) [2, 3, 4, 5, 1, 0] rfl ?_
  refine zcast (f2 := va_up f (u) (eInts cy 21 ((shTake a y o n (0)).1))) (ls2 := [(0, .ref (w.2 (t))), (1, .int (y)), (2, .int (o)), (3, .int (n)), (4, .int ((shTake a y o n (0)).2)), (5, .int (zpr (21 - (0))))]) (zsame_up hfu rfl) rfl ?_
  refine zdown (P := fun k => G (w, 0, 0) (va_up f (u) (eInts cy 21 ((shTake a y o n (k)).1))) [(0, .ref (w.2 (t))), (1, .int (y)), (2, .int (o)), (3, .int (n)), (4, .int ((shTake a y o n (k)).2)), (5, .int (zpr (21 - (k))))] 12 []) (B := 21) ?_ (fun k hn12 ih12 => ?_) 0 (Nat.zero_le _) 
  · show G (w, 0, 0) (va_up f (u) (eInts cy 21 ((shTake a y o n (21)).1))) [(0, .ref (w.2 (t))), (1, .int (y)), (2, .int (o)), (3, .int (n)), (4, .int ((shTake a y o n (21)).2)), (5, .int (zpr (21 - (21))))] 12 []
    refine zr_iload X 5 dX7_take_12 rfl ?_
    refine zr_if_lt X (tgt := 80) dX7_take_14 (by decide) (fun _ => ?_) (fun h => False.elim (h (by decide)))
    refine zr_iload_n X 3 dX7_take_80 rfl rfl ?_
    refine zr_iload X 4 dX7_take_81 rfl ?_
    refine zr_isub X dX7_take_83 ?_
    exact zret_i E rfl dX7_take_84 (by simp only []) (by simp only [])
  · show G (w, 0, 0) (va_up f (u) (eInts cy 21 ((shTake a y o n (k)).1))) [(0, .ref (w.2 (t))), (1, .int (y)), (2, .int (o)), (3, .int (n)), (4, .int ((shTake a y o n (k)).2)), (5, .int (zpr (21 - (k))))] 12 []
    rw [show 21 - k = (20 - k) + 1 by omega]
    show G (w, 0, 0) (va_up f (u) (eInts cy 21 ((shTake a y o n (k)).1))) [(0, .ref (w.2 (t))), (1, .int (y)), (2, .int (o)), (3, .int (n)), (4, .int ((shTake a y o n (k)).2)), (5, .int (nI (20 - k)))] 12 []
    refine zr_iload X 5 dX7_take_12 rfl ?_
    refine zr_if_lt X (tgt := 80) dX7_take_14 (by decide) (fun h => False.elim (nI_pos (by omega) h)) (fun _ => ?_)
    refine zr_iload X 5 dX7_take_17 rfl ?_
    refine zr_iload_n X 1 dX7_take_19 rfl rfl ?_
    refine zr_icmp_lt X (tgt := 74) dX7_take_20 (by decide) (fun h1 => ?_) (fun h2 => ?_)
    · refine zr_iinc X (v := zpr (20 - k)) (ls' := [(5, .int (zpr (20 - k))), (0, .ref (w.2 (t))), (1, .int (y)), (2, .int (o)), (3, .int (n)), (4, .int ((shTake a y o n (k)).2))]) 5 dX7_take_74 rfl (zdec1 _) (by decide) rfl ?_
      refine zr_goto X (tgt := 12) dX7_take_77 (by decide) ?_
      refine zr_loc X (ls' := [(0, .ref (w.2 (t))), (1, .int (y)), (2, .int (o)), (3, .int (n)), (4, .int ((shTake a y o n (k)).2)), (5, .int (zpr (20 - k)))]) [1, 2, 3, 4, 5, 0] rfl ?_
      exact zcast (f2 := va_up f (u) (eInts cy 21 ((shTake a y o n (k + 1)).1))) (ls2 := [(0, .ref (w.2 (t))), (1, .int (y)), (2, .int (o)), (3, .int (n)), (4, .int ((shTake a y o n (k + 1)).2)), (5, .int (zpr (21 - (k + 1))))]) (by simp only [if_pos h1, shTake_s, shTakeS]) (by rw [show 21 - (k + 1) = 20 - k by omega]; simp only [if_pos h1, shTake_s, shTakeS]) ih12
    · refine zr_iload X 5 dX7_take_23 rfl ?_
      refine zr_iload_n X 2 dX7_take_25 rfl rfl ?_
      refine zr_icmp_gt X (tgt := 74) dX7_take_26 (by decide) (fun h3 => ?_) (fun h4 => ?_)
      · refine zr_iinc X (v := zpr (20 - k)) (ls' := [(5, .int (zpr (20 - k))), (0, .ref (w.2 (t))), (1, .int (y)), (2, .int (o)), (3, .int (n)), (4, .int ((shTake a y o n (k)).2))]) 5 dX7_take_74 rfl (zdec1 _) (by decide) rfl ?_
        refine zr_goto X (tgt := 12) dX7_take_77 (by decide) ?_
        refine zr_loc X (ls' := [(0, .ref (w.2 (t))), (1, .int (y)), (2, .int (o)), (3, .int (n)), (4, .int ((shTake a y o n (k)).2)), (5, .int (zpr (20 - k)))]) [1, 2, 3, 4, 5, 0] rfl ?_
        exact zcast (f2 := va_up f (u) (eInts cy 21 ((shTake a y o n (k + 1)).1))) (ls2 := [(0, .ref (w.2 (t))), (1, .int (y)), (2, .int (o)), (3, .int (n)), (4, .int ((shTake a y o n (k + 1)).2)), (5, .int (zpr (21 - (k + 1))))]) (by simp only [if_neg h2, if_pos h3, shTake_s, shTakeS]) (by rw [show 21 - (k + 1) = 20 - k by omega]; simp only [if_neg h2, if_pos h3, shTake_s, shTakeS]) ih12
      · refine zr_iload X 4 dX7_take_29 rfl ?_
        refine zr_aload_n X 0 dX7_take_31 rfl rfl ?_
        refine zr_get X zfd_RX7_9 (t) ht ((va_up_ne _ _ (by omega)).trans hf) (v := .ref (w.2 (u))) rfl dX7_take_32 ?_
        refine zr_iload X 5 dX7_take_35 rfl ?_
        refine zr_iald X (u) hu (va_up_self _ _ _) (20 - k) (rfl) (by omega) (by decide) dX7_take_37 ?_
        refine zr_icmp_ge X (tgt := 46) dX7_take_38 (by decide) (fun h5 => ?_) (fun h6 => ?_)
        · refine zr_aload_n X 0 dX7_take_46 rfl rfl ?_
          refine zr_get X zfd_RX7_9 (t) ht ((va_up_ne _ _ (by omega)).trans hf) (v := .ref (w.2 (u))) rfl dX7_take_47 ?_
          refine zr_iload X 5 dX7_take_50 rfl ?_
          refine zr_iald X (u) hu (va_up_self _ _ _) (20 - k) (rfl) (by omega) (by decide) dX7_take_52 ?_
          refine zr_istore X (ls' := [(6, .int (((shTake a y o n (k)).1) (20 - k))), (0, .ref (w.2 (t))), (1, .int (y)), (2, .int (o)), (3, .int (n)), (4, .int ((shTake a y o n (k)).2)), (5, .int (nI (20 - k)))]) dX7_take_53 (by decide) rfl ?_
          refine zr_aload_n X 1 dX7_take_55 rfl rfl ?_
          refine zr_get X zfd_RX7_9 (t) ht ((va_up_ne _ _ (by omega)).trans hf) (v := .ref (w.2 (u))) rfl dX7_take_56 ?_
          refine zr_iload X 6 dX7_take_59 rfl ?_
          refine zr_dup2 X dX7_take_61 rfl rfl ?_
          refine zr_iald X (u) hu (va_up_self _ _ _) (20 - k) (rfl) (by omega) (by decide) dX7_take_62 ?_
          refine zr_iload X 0 dX7_take_63 rfl ?_
          refine zr_isub X dX7_take_65 ?_
          refine zr_iast X (u) hu (va_up_self _ _ _) (20 - k) (rfl) (by omega) (by decide) dX7_take_66 ?_
          rw [va_up_up]
          refine zr_iload X 5 dX7_take_67 rfl ?_
          refine zr_iload X 0 dX7_take_69 rfl ?_
          refine zr_isub X dX7_take_71 ?_
          refine zr_istore X (ls' := [(4, .int (((shTake a y o n (k)).2) - (((shTake a y o n (k)).1) (20 - k)))), (6, .int (((shTake a y o n (k)).1) (20 - k))), (0, .ref (w.2 (t))), (1, .int (y)), (2, .int (o)), (3, .int (n)), (5, .int (nI (20 - k)))]) dX7_take_72 (by decide) rfl ?_
          refine zr_iinc X (v := zpr (20 - k)) (ls' := [(5, .int (zpr (20 - k))), (4, .int (((shTake a y o n (k)).2) - (((shTake a y o n (k)).1) (20 - k)))), (6, .int (((shTake a y o n (k)).1) (20 - k))), (0, .ref (w.2 (t))), (1, .int (y)), (2, .int (o)), (3, .int (n))]) 6 dX7_take_74 rfl (zdec1 _) (by decide) rfl ?_
          refine zr_goto X (tgt := 12) dX7_take_77 (by decide) ?_
          refine zr_loc X (ls' := [(0, .ref (w.2 (t))), (1, .int (y)), (2, .int (o)), (3, .int (n)), (4, .int (((shTake a y o n (k)).2) - (((shTake a y o n (k)).1) (20 - k)))), (5, .int (zpr (20 - k)))]) [3, 4, 5, 6, 1, 0] rfl ?_
          exact zcast (f2 := va_up f (u) (eInts cy 21 ((shTake a y o n (k + 1)).1))) (ls2 := [(0, .ref (w.2 (t))), (1, .int (y)), (2, .int (o)), (3, .int (n)), (4, .int ((shTake a y o n (k + 1)).2)), (5, .int (zpr (21 - (k + 1))))]) (by simp only [if_neg h2, if_neg h4, if_pos h5, shTake_s, shTakeS]) (by rw [show 21 - (k + 1) = 20 - k by omega]; simp only [if_neg h2, if_neg h4, if_pos h5, shTake_s, shTakeS]) ih12
        · refine zr_iload X 4 dX7_take_41 rfl ?_
          refine zr_goto X (tgt := 53) dX7_take_43 (by decide) ?_
          refine zr_istore X (ls' := [(6, .int ((shTake a y o n (k)).2)), (0, .ref (w.2 (t))), (1, .int (y)), (2, .int (o)), (3, .int (n)), (4, .int ((shTake a y o n (k)).2)), (5, .int (nI (20 - k)))]) dX7_take_53 (by decide) rfl ?_
          refine zr_aload_n X 1 dX7_take_55 rfl rfl ?_
          refine zr_get X zfd_RX7_9 (t) ht ((va_up_ne _ _ (by omega)).trans hf) (v := .ref (w.2 (u))) rfl dX7_take_56 ?_
          refine zr_iload X 6 dX7_take_59 rfl ?_
          refine zr_dup2 X dX7_take_61 rfl rfl ?_
          refine zr_iald X (u) hu (va_up_self _ _ _) (20 - k) (rfl) (by omega) (by decide) dX7_take_62 ?_
          refine zr_iload X 0 dX7_take_63 rfl ?_
          refine zr_isub X dX7_take_65 ?_
          refine zr_iast X (u) hu (va_up_self _ _ _) (20 - k) (rfl) (by omega) (by decide) dX7_take_66 ?_
          rw [va_up_up]
          refine zr_iload X 5 dX7_take_67 rfl ?_
          refine zr_iload X 0 dX7_take_69 rfl ?_
          refine zr_isub X dX7_take_71 ?_
          refine zr_istore X (ls' := [(4, .int (((shTake a y o n (k)).2) - ((shTake a y o n (k)).2))), (6, .int ((shTake a y o n (k)).2)), (0, .ref (w.2 (t))), (1, .int (y)), (2, .int (o)), (3, .int (n)), (5, .int (nI (20 - k)))]) dX7_take_72 (by decide) rfl ?_
          refine zr_iinc X (v := zpr (20 - k)) (ls' := [(5, .int (zpr (20 - k))), (4, .int (((shTake a y o n (k)).2) - ((shTake a y o n (k)).2))), (6, .int ((shTake a y o n (k)).2)), (0, .ref (w.2 (t))), (1, .int (y)), (2, .int (o)), (3, .int (n))]) 6 dX7_take_74 rfl (zdec1 _) (by decide) rfl ?_
          refine zr_goto X (tgt := 12) dX7_take_77 (by decide) ?_
          refine zr_loc X (ls' := [(0, .ref (w.2 (t))), (1, .int (y)), (2, .int (o)), (3, .int (n)), (4, .int (((shTake a y o n (k)).2) - ((shTake a y o n (k)).2))), (5, .int (zpr (20 - k)))]) [3, 4, 5, 6, 1, 0] rfl ?_
          exact zcast (f2 := va_up f (u) (eInts cy 21 ((shTake a y o n (k + 1)).1))) (ls2 := [(0, .ref (w.2 (t))), (1, .int (y)), (2, .int (o)), (3, .int (n)), (4, .int ((shTake a y o n (k + 1)).2)), (5, .int (zpr (21 - (k + 1))))]) (by simp only [if_neg h2, if_neg h4, if_neg h6, shTake_s, shTakeS]) (by rw [show 21 - (k + 1) = 20 - k by omega]; simp only [if_neg h2, if_neg h4, if_neg h6, shTake_s, shTakeS]) ih12
def shGrow (a : Nat → Int32) (n : Nat) : (Nat → Int32) × Int32 := zfold (fun k s => (upd s.1 k s.2, s.1 k)) (a, 0) n
set_option maxHeartbeats 4000000 in
set_option maxRecDepth 100000 in
theorem k_Shelf_growOlder {l : Launch} {D : va_G} {cy : Nat → ClassId} {w : zW} {f : zF} {t u : Nat} {a : Nat → Int32}  (ht : t < w.1) (hu : u < w.1) (hf : f t = .inr (7, [.ref (w.2 u)])) (hfu : f u = eInts cy 21 a) (hne : t ≠ u) : zSd l D cy yX7_growOlder cX7_growOlder 4 (some .int) 0 0 [.ref (w.2 (t))] w f (some (.int ((shGrow a 21).2))) (va_up f u (eInts cy 21 (shGrow a 21).1)) := by
  refine zSd.intro (by decide) (Nat.le_of_ble_eq_true rfl) (fun G X E => ?_)
  show G (w, 0, 0) f [(0, .ref (w.2 (t)))] 0 []
  refine zr_iconst X (v := 0) dX7_growOlder_0 (by decide) ?_
  refine zr_istore_n X (ls' := [(1, .int (0)), (0, .ref (w.2 (t)))]) dX7_growOlder_1 rfl (by decide) rfl ?_
  refine zr_iconst X (v := 0) dX7_growOlder_2 (by decide) ?_
  refine zr_istore_n X (ls' := [(2, .int (0)), (1, .int (0)), (0, .ref (w.2 (t)))]) dX7_growOlder_3 rfl (by decide) rfl ?_
  refine zr_loc X (ls' := [(0, .ref (w.2 (t))), (1, .int (0)), (2, .int (0))]) [2, 1, 0] rfl ?_
  refine zcast (f2 := va_up f (u) (eInts cy 21 ((shGrow a (0)).1))) (ls2 := [(0, .ref (w.2 (t))), (1, .int ((shGrow a (0)).2)), (2, .int (nI (0)))]) (zsame_up hfu rfl) rfl ?_
  refine zdown (P := fun n => G (w, 0, 0) (va_up f (u) (eInts cy 21 ((shGrow a (n)).1))) [(0, .ref (w.2 (t))), (1, .int ((shGrow a (n)).2)), (2, .int (nI (n)))] 4 []) (B := 21) ?_ (fun n hn4 ih4 => ?_) 0 (Nat.zero_le _) 
  · show G (w, 0, 0) (va_up f (u) (eInts cy 21 ((shGrow a (21)).1))) [(0, .ref (w.2 (t))), (1, .int ((shGrow a (21)).2)), (2, .int (nI (21)))] 4 []
    refine zr_iload_n X 2 dX7_growOlder_4 rfl rfl ?_
    refine zr_aload_n X 0 dX7_growOlder_5 rfl rfl ?_
    refine zr_get X zfd_RX7_9 (t) ht ((va_up_ne _ _ (by omega)).trans hf) (v := .ref (w.2 (u))) rfl dX7_growOlder_6 ?_
    refine zr_alen X (u) hu (b := 0) rfl (va_up_self _ _ _) (v := 21) rfl dX7_growOlder_9 ?_
    refine zr_icmp_ge X (tgt := 35) dX7_growOlder_10 (by decide) (fun _ => ?_) (fun h => False.elim (h (by decide)))
    refine zr_iload_n X 1 dX7_growOlder_35 rfl rfl ?_
    exact zret_i E rfl dX7_growOlder_36 (by simp only []) (by simp only [])
  · show G (w, 0, 0) (va_up f (u) (eInts cy 21 ((shGrow a (n)).1))) [(0, .ref (w.2 (t))), (1, .int ((shGrow a (n)).2)), (2, .int (nI (n)))] 4 []
    refine zr_iload_n X 2 dX7_growOlder_4 rfl rfl ?_
    refine zr_aload_n X 0 dX7_growOlder_5 rfl rfl ?_
    refine zr_get X zfd_RX7_9 (t) ht ((va_up_ne _ _ (by omega)).trans hf) (v := .ref (w.2 (u))) rfl dX7_growOlder_6 ?_
    refine zr_alen X (u) hu (b := 0) rfl (va_up_self _ _ _) (v := 21) rfl dX7_growOlder_9 ?_
    refine zr_icmp_ge X (tgt := 35) dX7_growOlder_10 (by decide) (fun h => False.elim (nI_ge hn4 (by decide) h)) (fun _ => ?_)
    refine zr_iload_n X 1 dX7_growOlder_13 rfl rfl ?_
    refine zr_istore_n X (ls' := [(3, .int ((shGrow a (n)).2)), (0, .ref (w.2 (t))), (1, .int ((shGrow a (n)).2)), (2, .int (nI (n)))]) dX7_growOlder_14 rfl (by decide) rfl ?_
    refine zr_aload_n X 1 dX7_growOlder_15 rfl rfl ?_
    refine zr_get X zfd_RX7_9 (t) ht ((va_up_ne _ _ (by omega)).trans hf) (v := .ref (w.2 (u))) rfl dX7_growOlder_16 ?_
    refine zr_iload_n X 3 dX7_growOlder_19 rfl rfl ?_
    refine zr_iald X (u) hu (va_up_self _ _ _) (n) (rfl) (by omega) (by decide) dX7_growOlder_20 ?_
    refine zr_istore_n X (ls' := [(1, .int (((shGrow a (n)).1) n)), (3, .int ((shGrow a (n)).2)), (0, .ref (w.2 (t))), (2, .int (nI (n)))]) dX7_growOlder_21 rfl (by decide) rfl ?_
    refine zr_aload_n X 2 dX7_growOlder_22 rfl rfl ?_
    refine zr_get X zfd_RX7_9 (t) ht ((va_up_ne _ _ (by omega)).trans hf) (v := .ref (w.2 (u))) rfl dX7_growOlder_23 ?_
    refine zr_iload_n X 3 dX7_growOlder_26 rfl rfl ?_
    refine zr_iload_n X 1 dX7_growOlder_27 rfl rfl ?_
    refine zr_iast X (u) hu (va_up_self _ _ _) (n) (rfl) (by omega) (by decide) dX7_growOlder_28 ?_
    rw [va_up_up]
    refine zr_iinc X (v := nI (n + 1)) (ls' := [(2, .int (nI (n + 1))), (1, .int (((shGrow a (n)).1) n)), (3, .int ((shGrow a (n)).2)), (0, .ref (w.2 (t)))]) 3 dX7_growOlder_29 rfl (zinc1 _) (by decide) rfl ?_
    refine zr_goto X (tgt := 4) dX7_growOlder_32 (by decide) ?_
    refine zr_loc X (ls' := [(0, .ref (w.2 (t))), (1, .int (((shGrow a (n)).1) n)), (2, .int (nI (n + 1)))]) [3, 1, 0] rfl ?_
    exact zcast (f2 := va_up f (u) (eInts cy 21 ((shGrow a (n + 1)).1))) (ls2 := [(0, .ref (w.2 (t))), (1, .int ((shGrow a (n + 1)).2)), (2, .int (nI (n + 1)))]) rfl rfl ih4
def shCopy (a a2 : Nat → Int32) (n : Nat) : Nat → Int32 := zfold (fun k s => upd s k (a2 k)) a n
set_option maxHeartbeats 4000000 in
set_option maxRecDepth 100000 in
theorem k_Shelf_copyFrom {l : Launch} {D : va_G} {cy : Nat → ClassId} {w : zW} {f : zF} {t u t2 u2 : Nat} {a a2 : Nat → Int32} (ht : t < w.1) (hu : u < w.1) (hf : f t = .inr (7, [.ref (w.2 u)])) (hfu : f u = eInts cy 21 a) (hne : t ≠ u) (ht2 : t2 < w.1) (hu2 : u2 < w.1) (hf2 : f t2 = .inr (7, [.ref (w.2 u2)])) (hfu2 : f u2 = eInts cy 21 a2) (hne2 : t2 ≠ u) (hne3 : u2 ≠ u) : zSd l D cy yX7_copyFrom cX7_copyFrom 3 none 0 0 [.ref (w.2 (t)), .ref (w.2 (t2))] w f none (va_up f u (eInts cy 21 (shCopy a a2 21))) := by
  refine zSd.intro (by decide) (Nat.le_of_ble_eq_true rfl) (fun G X E => ?_)
  show G (w, 0, 0) f [(0, .ref (w.2 (t))), (1, .ref (w.2 (t2)))] 0 []
  refine zr_iconst X (v := 0) dX7_copyFrom_0 (by decide) ?_
  refine zr_istore_n X (ls' := [(2, .int (0)), (0, .ref (w.2 (t))), (1, .ref (w.2 (t2)))]) dX7_copyFrom_1 rfl (by decide) rfl ?_
  refine zr_loc X (ls' := [(0, .ref (w.2 (t))), (1, .ref (w.2 (t2))), (2, .int (0))]) [1, 2, 0] rfl ?_
  refine zcast (f2 := va_up f (u) (eInts cy 21 (shCopy a a2 (0)))) (ls2 := [(0, .ref (w.2 (t))), (1, .ref (w.2 (t2))), (2, .int (nI (0)))]) (zsame_up hfu rfl) rfl ?_
  refine zdown (P := fun n => G (w, 0, 0) (va_up f (u) (eInts cy 21 (shCopy a a2 (n)))) [(0, .ref (w.2 (t))), (1, .ref (w.2 (t2))), (2, .int (nI (n)))] 2 []) (B := 21) ?_ (fun n hn2 ih2 => ?_) 0 (Nat.zero_le _) 
  · show G (w, 0, 0) (va_up f (u) (eInts cy 21 (shCopy a a2 (21)))) [(0, .ref (w.2 (t))), (1, .ref (w.2 (t2))), (2, .int (nI (21)))] 2 []
    refine zr_iload_n X 2 dX7_copyFrom_2 rfl rfl ?_
    refine zr_aload_n X 0 dX7_copyFrom_3 rfl rfl ?_
    refine zr_get X zfd_RX7_9 (t) ht ((va_up_ne _ _ (by omega)).trans hf) (v := .ref (w.2 (u))) rfl dX7_copyFrom_4 ?_
    refine zr_alen X (u) hu (b := 0) rfl (va_up_self _ _ _) (v := 21) rfl dX7_copyFrom_7 ?_
    refine zr_icmp_ge X (tgt := 38) dX7_copyFrom_8 (by decide) (fun _ => ?_) (fun h => False.elim (h (by decide)))
    exact zret_v E rfl dX7_copyFrom_38 (by simp only [])
  · show G (w, 0, 0) (va_up f (u) (eInts cy 21 (shCopy a a2 (n)))) [(0, .ref (w.2 (t))), (1, .ref (w.2 (t2))), (2, .int (nI (n)))] 2 []
    refine zr_iload_n X 2 dX7_copyFrom_2 rfl rfl ?_
    refine zr_aload_n X 0 dX7_copyFrom_3 rfl rfl ?_
    refine zr_get X zfd_RX7_9 (t) ht ((va_up_ne _ _ (by omega)).trans hf) (v := .ref (w.2 (u))) rfl dX7_copyFrom_4 ?_
    refine zr_alen X (u) hu (b := 0) rfl (va_up_self _ _ _) (v := 21) rfl dX7_copyFrom_7 ?_
    refine zr_icmp_ge X (tgt := 38) dX7_copyFrom_8 (by decide) (fun h => False.elim (nI_ge hn2 (by decide) h)) (fun _ => ?_)
    refine zr_iload_n X 2 dX7_copyFrom_11 rfl rfl ?_
    refine zr_aload_n X 1 dX7_copyFrom_12 rfl rfl ?_
    refine zr_get X zfd_RX7_9 (t2) ht2 ((va_up_ne _ _ (by omega)).trans hf2) (v := .ref (w.2 (u2))) rfl dX7_copyFrom_13 ?_
    refine zr_alen X (u2) hu2 (b := 0) rfl ((va_up_ne _ _ (by omega)).trans hfu2) (v := 21) rfl dX7_copyFrom_16 ?_
    refine zr_icmp_ge X (tgt := 38) dX7_copyFrom_17 (by decide) (fun h => False.elim (nI_ge hn2 (by decide) h)) (fun _ => ?_)
    refine zr_aload_n X 0 dX7_copyFrom_20 rfl rfl ?_
    refine zr_get X zfd_RX7_9 (t) ht ((va_up_ne _ _ (by omega)).trans hf) (v := .ref (w.2 (u))) rfl dX7_copyFrom_21 ?_
    refine zr_iload_n X 2 dX7_copyFrom_24 rfl rfl ?_
    refine zr_aload_n X 1 dX7_copyFrom_25 rfl rfl ?_
    refine zr_get X zfd_RX7_9 (t2) ht2 ((va_up_ne _ _ (by omega)).trans hf2) (v := .ref (w.2 (u2))) rfl dX7_copyFrom_26 ?_
    refine zr_iload_n X 2 dX7_copyFrom_29 rfl rfl ?_
    refine zr_iald X (u2) hu2 ((va_up_ne _ _ (by omega)).trans hfu2) (n) (rfl) (by omega) (by decide) dX7_copyFrom_30 ?_
    refine zr_iast X (u) hu (va_up_self _ _ _) (n) (rfl) (by omega) (by decide) dX7_copyFrom_31 ?_
    rw [va_up_up]
    refine zr_iinc X (v := nI (n + 1)) (ls' := [(2, .int (nI (n + 1))), (0, .ref (w.2 (t))), (1, .ref (w.2 (t2)))]) 2 dX7_copyFrom_32 rfl (zinc1 _) (by decide) rfl ?_
    refine zr_goto X (tgt := 2) dX7_copyFrom_35 (by decide) ?_
    refine zr_loc X (ls' := [(0, .ref (w.2 (t))), (1, .ref (w.2 (t2))), (2, .int (nI (n + 1)))]) [1, 2, 0] rfl ?_
    exact zcast (f2 := va_up f (u) (eInts cy 21 (shCopy a a2 (n + 1)))) (ls2 := [(0, .ref (w.2 (t))), (1, .ref (w.2 (t2))), (2, .int (nI (n + 1)))]) rfl rfl ih2
end
section
set_option maxHeartbeats 4000000 in
set_option maxRecDepth 100000 in
theorem k_muleAt {l : Launch} {D : va_G} {cy : Nat → ClassId} {w : zW} {f : zF} {b mc bk : Nat} {γ : Nat → Nat} {σ : Nat → Int32} {k : Nat} (hb : b + 21 ≤ w.1) (hm : σ 0 = nI mc) (hmc : mc ≤ 4) (hg : σ 1 = nI bk) (hbk : bk ≤ 10) (hγ : ∀ k, k < 10 → γ k < 10) (hk : k < mc) : zSd l D cy yX2_muleAt cX2_muleAt 2 (some (.object "HutLoaves$Mule")) 0 0 [.ref (w.2 (b)), .int (nI k)] w (zPut f b (zHut w cy b γ σ)) (some (.ref (w.2 (b + (7 + k))))) (zPut f b (zHut w cy b γ σ)) := by
  refine zSd.intro (by decide) (Nat.le_of_ble_eq_true rfl) (fun G X E => ?_)
  show G (w, 0, 0) (zPut f b (zHut w cy b γ σ)) [(0, .ref (w.2 (b))), (1, .int (nI k))] 0 []
  refine zr_iload_n X 1 dX2_muleAt_0 rfl rfl ?_
  refine zr_if_lt X (tgt := 30) dX2_muleAt_1 (by decide) (fun h => False.elim (nI_pos (by omega) h)) (fun _ => ?_)
  refine zr_iload_n X 1 dX2_muleAt_4 rfl rfl ?_
  refine zr_aload_n X 0 dX2_muleAt_5 rfl rfl ?_
  refine zr_get X zfd_RX2_50 (b) (show b < w.1 by omega) (zPut_in (o := 0) (by omega)) (v := .int (σ 0)) rfl dX2_muleAt_6 ?_
  refine zr_icmp_ge X (tgt := 30) dX2_muleAt_9 (by decide) (fun h => False.elim (nI_ge hk (by omega) (by rw [← hm]; exact h))) (fun _ => ?_)
  refine zr_iload_n X 1 dX2_muleAt_12 rfl rfl ?_
  refine zr_aload_n X 0 dX2_muleAt_13 rfl rfl ?_
  refine zr_get X zfd_RX2_11 (b) (show b < w.1 by omega) (zPut_in (o := 0) (by omega)) (v := .ref (w.2 (b + 1))) rfl dX2_muleAt_14 ?_
  refine zr_alen X (b + 1) (show b + 1 < w.1 by omega) (b := 2) rfl (zPut_in (o := 1) (by omega)) (v := 4) rfl dX2_muleAt_17 ?_
  refine zr_icmp_ge X (tgt := 30) dX2_muleAt_18 (by decide) (fun h => False.elim (nI_ge (show k < 4 by omega) (by decide) h)) (fun _ => ?_)
  refine zr_aload_n X 0 dX2_muleAt_21 rfl rfl ?_
  refine zr_get X zfd_RX2_11 (b) (show b < w.1 by omega) (zPut_in (o := 0) (by omega)) (v := .ref (w.2 (b + 1))) rfl dX2_muleAt_22 ?_
  refine zr_iload_n X 1 dX2_muleAt_25 rfl rfl ?_
  refine zr_aald X (b + 1) (show b + 1 < w.1 by omega) (b := 2) rfl (zPut_in (o := 1) (by omega)) (k) (rfl) (by omega) (by decide) (v := w.2 (b + (7 + k))) rfl dX2_muleAt_26 ?_
  refine zr_goto X (tgt := 31) dX2_muleAt_27 (by decide) ?_
  exact zret_a E ⟨_, rfl⟩ (Or.inr ⟨_, rfl⟩) dX2_muleAt_31 rfl rfl
set_option maxHeartbeats 4000000 in
set_option maxRecDepth 100000 in
theorem k_muleAtN {l : Launch} {D : va_G} {cy : Nat → ClassId} {w : zW} {f : zF} {b mc bk : Nat} {γ : Nat → Nat} {σ : Nat → Int32} {x : Int32} (hb : b + 21 ≤ w.1) (hm : σ 0 = nI mc) (hmc : mc ≤ 4) (hg : σ 1 = nI bk) (hbk : bk ≤ 10) (hγ : ∀ k, k < 10 → γ k < 10) (hx : x < 0 ∨ σ 0 ≤ x) : zSd l D cy yX2_muleAt cX2_muleAt 2 (some (.object "HutLoaves$Mule")) 0 0 [.ref (w.2 (b)), .int (x)] w (zPut f b (zHut w cy b γ σ)) (some (.null)) (zPut f b (zHut w cy b γ σ)) := by
  refine zSd.intro (by decide) (Nat.le_of_ble_eq_true rfl) (fun G X E => ?_)
  show G (w, 0, 0) (zPut f b (zHut w cy b γ σ)) [(0, .ref (w.2 (b))), (1, .int (x))] 0 []
  refine zr_iload_n X 1 dX2_muleAt_0 rfl rfl ?_
  refine zr_if_lt X (tgt := 30) dX2_muleAt_1 (by decide) (fun h1 => ?_) (fun h2 => ?_)
  · refine zr_null X dX2_muleAt_30 ?_
    exact zret_a E ⟨_, rfl⟩ (Or.inl rfl) dX2_muleAt_31 rfl rfl
  · refine zr_iload_n X 1 dX2_muleAt_4 rfl rfl ?_
    refine zr_aload_n X 0 dX2_muleAt_5 rfl rfl ?_
    refine zr_get X zfd_RX2_50 (b) (show b < w.1 by omega) (zPut_in (o := 0) (by omega)) (v := .int (σ 0)) rfl dX2_muleAt_6 ?_
    refine zr_icmp_ge X (tgt := 30) dX2_muleAt_9 (by decide) (fun _ => ?_) (fun h => False.elim (hx.elim (fun q => h2 q) h))
    refine zr_null X dX2_muleAt_30 ?_
    exact zret_a E ⟨_, rfl⟩ (Or.inl rfl) dX2_muleAt_31 rfl rfl
set_option maxHeartbeats 4000000 in
set_option maxRecDepth 100000 in
theorem k_groupAt {l : Launch} {D : va_G} {cy : Nat → ClassId} {w : zW} {f : zF} {b mc bk : Nat} {γ : Nat → Nat} {σ : Nat → Int32} {k : Nat} (hb : b + 21 ≤ w.1) (hm : σ 0 = nI mc) (hmc : mc ≤ 4) (hg : σ 1 = nI bk) (hbk : bk ≤ 10) (hγ : ∀ k, k < 10 → γ k < 10) (hk : k < bk) : zSd l D cy yX2_groupAt cX2_groupAt 2 (some (.object "HutLoaves$Group")) 0 0 [.ref (w.2 (b)), .int (nI k)] w (zPut f b (zHut w cy b γ σ)) (some (.ref (w.2 (b + (11 + γ k))))) (zPut f b (zHut w cy b γ σ)) := by
  refine zSd.intro (by decide) (Nat.le_of_ble_eq_true rfl) (fun G X E => ?_)
  show G (w, 0, 0) (zPut f b (zHut w cy b γ σ)) [(0, .ref (w.2 (b))), (1, .int (nI k))] 0 []
  refine zr_iload_n X 1 dX2_groupAt_0 rfl rfl ?_
  refine zr_if_lt X (tgt := 30) dX2_groupAt_1 (by decide) (fun h => False.elim (nI_pos (by omega) h)) (fun _ => ?_)
  refine zr_iload_n X 1 dX2_groupAt_4 rfl rfl ?_
  refine zr_aload_n X 0 dX2_groupAt_5 rfl rfl ?_
  refine zr_get X zfd_RX2_53 (b) (show b < w.1 by omega) (zPut_in (o := 0) (by omega)) (v := .int (σ 1)) rfl dX2_groupAt_6 ?_
  refine zr_icmp_ge X (tgt := 30) dX2_groupAt_9 (by decide) (fun h => False.elim (nI_ge hk (by omega) (by rw [← hg]; exact h))) (fun _ => ?_)
  refine zr_iload_n X 1 dX2_groupAt_12 rfl rfl ?_
  refine zr_aload_n X 0 dX2_groupAt_13 rfl rfl ?_
  refine zr_get X zfd_RX2_19 (b) (show b < w.1 by omega) (zPut_in (o := 0) (by omega)) (v := .ref (w.2 (b + 2))) rfl dX2_groupAt_14 ?_
  refine zr_alen X (b + 2) (show b + 2 < w.1 by omega) (b := 3) rfl (zPut_in (o := 2) (by omega)) (v := 10) rfl dX2_groupAt_17 ?_
  refine zr_icmp_ge X (tgt := 30) dX2_groupAt_18 (by decide) (fun h => False.elim (nI_ge (show k < 10 by omega) (by decide) h)) (fun _ => ?_)
  refine zr_aload_n X 0 dX2_groupAt_21 rfl rfl ?_
  refine zr_get X zfd_RX2_19 (b) (show b < w.1 by omega) (zPut_in (o := 0) (by omega)) (v := .ref (w.2 (b + 2))) rfl dX2_groupAt_22 ?_
  refine zr_iload_n X 1 dX2_groupAt_25 rfl rfl ?_
  refine zr_aald X (b + 2) (show b + 2 < w.1 by omega) (b := 3) rfl (zPut_in (o := 2) (by omega)) (k) (rfl) (by omega) (by decide) (v := w.2 (b + (11 + γ k))) rfl dX2_groupAt_26 ?_
  refine zr_goto X (tgt := 31) dX2_groupAt_27 (by decide) ?_
  exact zret_a E ⟨_, rfl⟩ (Or.inr ⟨_, rfl⟩) dX2_groupAt_31 rfl rfl
set_option maxHeartbeats 4000000 in
set_option maxRecDepth 100000 in
theorem k_groupAtN {l : Launch} {D : va_G} {cy : Nat → ClassId} {w : zW} {f : zF} {b mc bk : Nat} {γ : Nat → Nat} {σ : Nat → Int32} {x : Int32} (hb : b + 21 ≤ w.1) (hm : σ 0 = nI mc) (hmc : mc ≤ 4) (hg : σ 1 = nI bk) (hbk : bk ≤ 10) (hγ : ∀ k, k < 10 → γ k < 10) (hx : x < 0 ∨ σ 1 ≤ x) : zSd l D cy yX2_groupAt cX2_groupAt 2 (some (.object "HutLoaves$Group")) 0 0 [.ref (w.2 (b)), .int (x)] w (zPut f b (zHut w cy b γ σ)) (some (.null)) (zPut f b (zHut w cy b γ σ)) := by
  refine zSd.intro (by decide) (Nat.le_of_ble_eq_true rfl) (fun G X E => ?_)
  show G (w, 0, 0) (zPut f b (zHut w cy b γ σ)) [(0, .ref (w.2 (b))), (1, .int (x))] 0 []
  refine zr_iload_n X 1 dX2_groupAt_0 rfl rfl ?_
  refine zr_if_lt X (tgt := 30) dX2_groupAt_1 (by decide) (fun h1 => ?_) (fun h2 => ?_)
  · refine zr_null X dX2_groupAt_30 ?_
    exact zret_a E ⟨_, rfl⟩ (Or.inl rfl) dX2_groupAt_31 rfl rfl
  · refine zr_iload_n X 1 dX2_groupAt_4 rfl rfl ?_
    refine zr_aload_n X 0 dX2_groupAt_5 rfl rfl ?_
    refine zr_get X zfd_RX2_53 (b) (show b < w.1 by omega) (zPut_in (o := 0) (by omega)) (v := .int (σ 1)) rfl dX2_groupAt_6 ?_
    refine zr_icmp_ge X (tgt := 30) dX2_groupAt_9 (by decide) (fun _ => ?_) (fun h => False.elim (hx.elim (fun q => h2 q) h))
    refine zr_null X dX2_groupAt_30 ?_
    exact zret_a E ⟨_, rfl⟩ (Or.inl rfl) dX2_groupAt_31 rfl rfl
theorem zix3 {σ : Nat → Int32} {i n N : Nat} {x : Int32} (hm : σ i = nI n) (hn : n ≤ N) (hN : N < 2147483648) (h0 : ¬ x < 0) (h1 : ¬ σ i ≤ x) : x.toNatClampNeg < n := by
  rw [hm] at h1
  exact zix2 h0 (by omega) h1
theorem k_muleAtX {l : Launch} {D : va_G} {cy : Nat → ClassId} {w : zW} {f : zF} {b mc bk : Nat} {γ : Nat → Nat} {σ : Nat → Int32} {x : Int32} (hb : b + 21 ≤ w.1) (hm : σ 0 = nI mc) (hmc : mc ≤ 4) (hg : σ 1 = nI bk) (hbk : bk ≤ 10) (hγ : ∀ k, k < 10 → γ k < 10) (h0 : ¬ x < 0) (h1 : ¬ σ 0 ≤ x) : zSd l D cy yX2_muleAt cX2_muleAt 2 (some (.object "HutLoaves$Mule")) 0 0 [.ref (w.2 b), .int x] w (zPut f b (zHut w cy b γ σ)) (some (.ref (w.2 (b + (7 + x.toNatClampNeg))))) (zPut f b (zHut w cy b γ σ)) := by
  have e := zix1 h0
  have hk := zix3 hm hmc (by decide) h0 h1
  have r := k_muleAt (l := l) (D := D) (cy := cy) (w := w) (f := f) hb hm hmc hg hbk hγ hk
  rw [← e] at r
  exact r
theorem k_groupAtX {l : Launch} {D : va_G} {cy : Nat → ClassId} {w : zW} {f : zF} {b mc bk : Nat} {γ : Nat → Nat} {σ : Nat → Int32} {x : Int32} (hb : b + 21 ≤ w.1) (hm : σ 0 = nI mc) (hmc : mc ≤ 4) (hg : σ 1 = nI bk) (hbk : bk ≤ 10) (hγ : ∀ k, k < 10 → γ k < 10) (h0 : ¬ x < 0) (h1 : ¬ σ 1 ≤ x) : zSd l D cy yX2_groupAt cX2_groupAt 2 (some (.object "HutLoaves$Group")) 0 0 [.ref (w.2 b), .int x] w (zPut f b (zHut w cy b γ σ)) (some (.ref (w.2 (b + (11 + γ x.toNatClampNeg))))) (zPut f b (zHut w cy b γ σ)) := by
  have e := zix1 h0
  have hk := zix3 hg hbk (by decide) h0 h1
  have r := k_groupAt (l := l) (D := D) (cy := cy) (w := w) (f := f) hb hm hmc hg hbk hγ hk
  rw [← e] at r
  exact r
def hPlace (γ : Nat → Nat) (σ : Nat → Int32) (x : Int32) : Nat → Nat → Int32
  | 0, _ => -1
  | m + 1, k => if σ (55 + 6 * γ k + 0) = x then nI k else hPlace γ σ x m (k + 1)
set_option maxHeartbeats 4000000 in
set_option maxRecDepth 100000 in
theorem k_placeOfGroup {l : Launch} {D : va_G} {cy : Nat → ClassId} {w : zW} {f : zF} {b mc bk : Nat} {γ : Nat → Nat} {σ : Nat → Int32} {x : Int32} (hb : b + 21 ≤ w.1) (hm : σ 0 = nI mc) (hmc : mc ≤ 4) (hg : σ 1 = nI bk) (hbk : bk ≤ 10) (hγ : ∀ k, k < 10 → γ k < 10)  : zSd l D cy yX2_placeOfGroup cX2_placeOfGroup 4 (some .int) 1 21 [.ref (w.2 (b)), .int (x)] w (zPut f b (zHut w cy b γ σ)) (some (.int (hPlace γ σ x bk 0))) (zPut f b (zHut w cy b γ σ)) := by
  refine zSd.intro (by decide) (Nat.le_of_ble_eq_true rfl) (fun G X E => ?_)
  show G (w, 0, 0) (zPut f b (zHut w cy b γ σ)) [(0, .ref (w.2 (b))), (1, .int (x))] 0 []
  refine zr_iconst X (v := 0) dX2_placeOfGroup_0 (by decide) ?_
  refine zr_istore_n X (ls' := [(2, .int (0)), (0, .ref (w.2 (b))), (1, .int (x))]) dX2_placeOfGroup_1 rfl (by decide) rfl ?_
  refine zr_loc X (ls' := [(0, .ref (w.2 (b))), (1, .int (x)), (2, .int (0))]) [1, 2, 0] rfl ?_
  refine zcast (f2 := zPut f b (zHut w cy b γ σ)) (ls2 := [(0, .ref (w.2 (b))), (1, .int (x)), (2, .int (nI (0)))]) rfl rfl ?_
  refine zdown (P := fun n => hPlace γ σ x (bk - (n)) (n) = hPlace γ σ x bk 0 → G (w, 0, 0) (zPut f b (zHut w cy b γ σ)) [(0, .ref (w.2 (b))), (1, .int (x)), (2, .int (nI (n)))] 2 []) (B := bk) ?_ (fun n hn2 ih2 => ?_) 0 (Nat.zero_le _) rfl
  · show hPlace γ σ x (bk - (bk)) (bk) = hPlace γ σ x bk 0 → G (w, 0, 0) (zPut f b (zHut w cy b γ σ)) [(0, .ref (w.2 (b))), (1, .int (x)), (2, .int (nI (bk)))] 2 []
    intro hp
    refine zr_iload_n X 2 dX2_placeOfGroup_2 rfl rfl ?_
    refine zr_aload_n X 0 dX2_placeOfGroup_3 rfl rfl ?_
    refine zr_get X zfd_RX2_53 (b) (show b < w.1 by omega) (zPut_in (o := 0) (by omega)) (v := .int (σ 1)) rfl dX2_placeOfGroup_4 ?_
    refine zr_icmp_ge X (tgt := 36) dX2_placeOfGroup_7 (by decide) (fun _ => ?_) (fun h => False.elim (h (by rw [hg]; exact nI_le (Nat.le_refl _) (by omega))))
    refine zr_iconst X (v := (-1)) dX2_placeOfGroup_36 (by decide) ?_
    exact zret_i E rfl dX2_placeOfGroup_37 (by rw [← hp, Nat.sub_self]; rfl) rfl
  · show hPlace γ σ x (bk - (n)) (n) = hPlace γ σ x bk 0 → G (w, 0, 0) (zPut f b (zHut w cy b γ σ)) [(0, .ref (w.2 (b))), (1, .int (x)), (2, .int (nI (n)))] 2 []
    intro hp
    rw [show bk - n = (bk - (n + 1)) + 1 by omega] at hp
    refine zr_iload_n X 2 dX2_placeOfGroup_2 rfl rfl ?_
    refine zr_aload_n X 0 dX2_placeOfGroup_3 rfl rfl ?_
    refine zr_get X zfd_RX2_53 (b) (show b < w.1 by omega) (zPut_in (o := 0) (by omega)) (v := .int (σ 1)) rfl dX2_placeOfGroup_4 ?_
    refine zr_icmp_ge X (tgt := 36) dX2_placeOfGroup_7 (by decide) (fun h => False.elim (nI_ge hn2 (by omega) (by rw [← hg]; exact h))) (fun _ => ?_)
    refine zr_aload_n X 0 dX2_placeOfGroup_10 rfl rfl ?_
    refine zr_iload_n X 2 dX2_placeOfGroup_11 rfl rfl ?_
    have q1 := hγ n (by omega)
    refine zr_cV X (As := [.int (nI (n))]) (rest := []) (f' := zPut f b (zHut w cy b γ σ)) (st' := [.ref (w.2 (b + (11 + γ n)))]) zc_X2_groupAt (b) (show b < w.1 by omega) (zPut_in (o := 0) (by omega)) (q9 := _) rfl rfl (k_groupAt hb hm hmc hg hbk hγ (by omega)) ⟨Nat.le_of_ble_eq_true rfl, Nat.le_of_ble_eq_true rfl⟩ ⟨Nat.le_refl _, Nat.le_refl _⟩ rfl (Nat.le_of_ble_eq_true rfl) zm_2_69 rfl dX2_placeOfGroup_12 rfl ?_
    refine zr_astore_n X (ls' := [(3, .ref (w.2 (b + (11 + γ n)))), (0, .ref (w.2 (b))), (1, .int (x)), (2, .int (nI (n)))]) dX2_placeOfGroup_15 rfl (by decide) rfl ?_
    refine zr_aload_n X 0 dX2_placeOfGroup_16 rfl rfl ?_
    refine zr_ifnull X dX2_placeOfGroup_17 ?_
    refine zr_aload_n X 0 dX2_placeOfGroup_20 rfl rfl ?_
    refine zr_getN X zfn_RX2_86 (b + (11 + γ n)) (show b + (11 + γ n) < w.1 by omega) ((zPut_in (o := 11 + γ n) (by omega)).trans (zHut_group (k := γ n))) (v := .int (σ (55 + 6 * (γ n) + 0))) rfl dX2_placeOfGroup_21 ?_
    refine zr_iload_n X 2 dX2_placeOfGroup_24 rfl rfl ?_
    refine zr_icmp_ne X (tgt := 30) dX2_placeOfGroup_25 (by decide) (fun h1 => ?_) (fun h2 => ?_)
    · refine zr_iinc X (v := nI (n + 1)) (ls' := [(2, .int (nI (n + 1))), (3, .ref (w.2 (b + (11 + γ n)))), (0, .ref (w.2 (b))), (1, .int (x))]) 3 dX2_placeOfGroup_30 rfl (zinc1 _) (by decide) rfl ?_
      refine zr_goto X (tgt := 2) dX2_placeOfGroup_33 (by decide) ?_
      refine zr_loc X (ls' := [(0, .ref (w.2 (b))), (1, .int (x)), (2, .int (nI (n + 1)))]) [2, 3, 0] rfl ?_
      exact zcast (f2 := zPut f b (zHut w cy b γ σ)) (ls2 := [(0, .ref (w.2 (b))), (1, .int (x)), (2, .int (nI (n + 1)))]) rfl rfl (ih2 (by rw [← hp]; simp only [if_neg h1, hPlace]))
    · refine zr_iload_n X 3 dX2_placeOfGroup_28 rfl rfl ?_
      exact zret_i E rfl dX2_placeOfGroup_29 (by rw [← hp]; simp only [if_pos h2, hPlace]) rfl
theorem k_muleAtE {l : Launch} {D : va_G} {cy : Nat → ClassId} {w : zW} {f : zF} {b mc bk : Nat} {γ : Nat → Nat} {σ : Nat → Int32} {k : Nat} {x : Int32} (hb : b + 21 ≤ w.1) (hm : σ 0 = nI mc) (hmc : mc ≤ 4) (hg : σ 1 = nI bk) (hbk : bk ≤ 10) (hγ : ∀ k, k < 10 → γ k < 10) (hk : k < mc) (hx : x = nI k) : zSd l D cy yX2_muleAt cX2_muleAt 2 (some (.object "HutLoaves$Mule")) 0 0 [.ref (w.2 b), .int x] w (zPut f b (zHut w cy b γ σ)) (some (.ref (w.2 (b + (7 + k))))) (zPut f b (zHut w cy b γ σ)) := by
  subst hx
  exact k_muleAt hb hm hmc hg hbk hγ hk
theorem k_groupAtE {l : Launch} {D : va_G} {cy : Nat → ClassId} {w : zW} {f : zF} {b mc bk : Nat} {γ : Nat → Nat} {σ : Nat → Int32} {k : Nat} {x : Int32} (hb : b + 21 ≤ w.1) (hm : σ 0 = nI mc) (hmc : mc ≤ 4) (hg : σ 1 = nI bk) (hbk : bk ≤ 10) (hγ : ∀ k, k < 10 → γ k < 10) (hk : k < bk) (hx : x = nI k) : zSd l D cy yX2_groupAt cX2_groupAt 2 (some (.object "HutLoaves$Group")) 0 0 [.ref (w.2 b), .int x] w (zPut f b (zHut w cy b γ σ)) (some (.ref (w.2 (b + (11 + γ k))))) (zPut f b (zHut w cy b γ σ)) := by
  subst hx
  exact k_groupAt hb hm hmc hg hbk hγ hk
theorem hm_up {σ : Nat → Int32} {i n : Nat} (h : σ i = nI n) : upd σ i (σ i + 1) i = nI (n + 1) := by
  rw [upd_eq, h, nI_succ]
def hAddMule1 (mc : Nat) (σ : Nat → Int32) (a c : Int32) : Nat → Int32 := setR (upd σ 0 (σ 0 + 1)) (19 + 9 * mc) 9 (mBegin (fun i => (upd σ 0 (σ 0 + 1)) (19 + 9 * mc + i)) a c)
def hAddMule (mc : Nat) (σ : Nat → Int32) (a c : Int32) : Int32 × (Nat → Int32) := if (zwin a 1 30) = 0 then (-1000001, σ) else if (zwin c 1 9) = 0 then (-1000001, σ) else if (σ 0) < 4 then (σ 0, hAddMule1 mc σ a c) else (-1000003, σ)
set_option maxHeartbeats 4000000 in
set_option maxRecDepth 100000 in
theorem k_addMule {l : Launch} {D : va_G} {cy : Nat → ClassId} {w : zW} {f : zF} {b mc bk : Nat} {γ : Nat → Nat} {σ : Nat → Int32} {a : Int32} {c : Int32} (hb : b + 21 ≤ w.1) (hm : σ 0 = nI mc) (hmc : mc ≤ 4) (hg : σ 1 = nI bk) (hbk : bk ≤ 10) (hγ : ∀ k, k < 10 → γ k < 10)  : zSd l D cy yX2_addMule cX2_addMule 5 (some .int) 1 22 [.ref (w.2 (b)), .int (a), .int (c)] w (zPut f b (zHut w cy b γ σ)) (some (.int ((hAddMule mc σ a c).1))) (zPut f b (zHut w cy b γ (hAddMule mc σ a c).2)) := by
  refine zSd.intro (by decide) (Nat.le_of_ble_eq_true rfl) (fun G X E => ?_)
  show G (w, 0, 0) (zPut f b (zHut w cy b γ σ)) [(0, .ref (w.2 (b))), (1, .int (a)), (2, .int (c))] 0 []
  refine zr_iload_n X 1 dX2_addMule_0 rfl rfl ?_
  refine zr_iconst X (v := 1) dX2_addMule_1 (by decide) ?_
  refine zr_bipush X (v := 30) dX2_addMule_2 (by decide) ?_
  refine zr_cSN X (As := [.int (a), .int (1), .int (30)]) (rest := []) (f' := zPut f b (zHut w cy b γ σ)) (st' := [.int (zwin a 1 30)]) zc_X8_isWithin k_isWithin ⟨Nat.le_of_ble_eq_true rfl, Nat.le_of_ble_eq_true rfl⟩ ⟨Nat.le_refl _, Nat.le_refl _⟩ rfl (Nat.le_of_ble_eq_true rfl) (List.mem_of_getElem? (i := 45) rfl) rfl dX2_addMule_4 rfl ?_
  refine zr_if_eq X (tgt := 20) dX2_addMule_7 (by decide) (fun h1 => ?_) (fun h2 => ?_)
  · refine zr_ldc X zm_2_84 dX2_addMule_20 ?_
    exact zret_i E rfl dX2_addMule_22 (by simp only [hAddMule, hAddMule1, if_pos h1]) (by simp only [hAddMule, hAddMule1, if_pos h1])
  · refine zr_iload_n X 2 dX2_addMule_10 rfl rfl ?_
    refine zr_iconst X (v := 1) dX2_addMule_11 (by decide) ?_
    refine zr_bipush X (v := 9) dX2_addMule_12 (by decide) ?_
    refine zr_cSN X (As := [.int (c), .int (1), .int (9)]) (rest := []) (f' := zPut f b (zHut w cy b γ σ)) (st' := [.int (zwin c 1 9)]) zc_X8_isWithin k_isWithin ⟨Nat.le_of_ble_eq_true rfl, Nat.le_of_ble_eq_true rfl⟩ ⟨Nat.le_refl _, Nat.le_refl _⟩ rfl (Nat.le_of_ble_eq_true rfl) (List.mem_of_getElem? (i := 45) rfl) rfl dX2_addMule_14 rfl ?_
    refine zr_if_ne X (tgt := 23) dX2_addMule_17 (by decide) (fun h3 => ?_) (fun h4 => ?_)
    · refine zr_aload_n X 0 dX2_addMule_23 rfl rfl ?_
      refine zr_get X zfd_RX2_50 (b) (show b < w.1 by omega) (zPut_in (o := 0) (by omega)) (v := .int (σ 0)) rfl dX2_addMule_24 ?_
      refine zr_iconst X (v := 4) dX2_addMule_27 (by decide) ?_
      refine zr_icmp_lt X (tgt := 34) dX2_addMule_28 (by decide) (fun h5 => ?_) (fun h6 => ?_)
      · refine zr_aload_n X 0 dX2_addMule_34 rfl rfl ?_
        refine zr_get X zfd_RX2_50 (b) (show b < w.1 by omega) (zPut_in (o := 0) (by omega)) (v := .int (σ 0)) rfl dX2_addMule_35 ?_
        refine zr_istore_n X (ls' := [(3, .int (σ 0)), (0, .ref (w.2 (b))), (1, .int (a)), (2, .int (c))]) dX2_addMule_38 rfl (by decide) rfl ?_
        refine zr_aload_n X 1 dX2_addMule_39 rfl rfl ?_
        refine zr_dup X dX2_addMule_40 rfl ?_
        refine zr_get X zfd_RX2_50 (b) (show b < w.1 by omega) (zPut_in (o := 0) (by omega)) (v := .int (σ 0)) rfl dX2_addMule_41 ?_
        refine zr_iconst X (v := 1) dX2_addMule_44 (by decide) ?_
        refine zr_iadd X dX2_addMule_45 ?_
        refine zr_put X zfd_RX2_50 zty_2_5 (b) (show b < w.1 by omega) (zPut_in (o := 0) (by omega)) rfl rfl (Nat.le_of_ble_eq_true rfl) (eHut_set _ _ _ _ 0 (by decide)) dX2_addMule_46 ?_
        refine zcw (f2 := zPut f b (zHut w cy b γ (upd σ 0 ((σ 0) + 1)))) (zu_hut (i := 0) (by decide)) ?_
        refine zr_aload_n X 1 dX2_addMule_49 rfl rfl ?_
        refine zr_iload_n X 0 dX2_addMule_50 rfl rfl ?_
        have q : mc < 4 := by have h9 := h5; rw [hm] at h9; exact (nI_ltI (by omega) (show 4 < 2147483648 by decide)).mp h9
        refine zr_cV X (As := [.int (σ 0)]) (rest := []) (f' := zPut f b (zHut w cy b γ (upd σ 0 ((σ 0) + 1)))) (st' := [.ref (w.2 (b + (7 + mc)))]) zc_X2_muleAt (b) (show b < w.1 by omega) (zPut_in (o := 0) (by omega)) (q9 := _) rfl rfl (k_muleAtE hb (hm_up hm) (show mc + 1 ≤ 4 by omega) (show _ = nI bk from hg) hbk hγ (show mc < mc + 1 by omega) hm) ⟨Nat.le_of_ble_eq_true rfl, Nat.le_of_ble_eq_true rfl⟩ ⟨Nat.le_refl _, Nat.le_refl _⟩ rfl (Nat.le_of_ble_eq_true rfl) zm_2_61 rfl dX2_addMule_51 rfl ?_
        refine zr_astore X (ls' := [(4, .ref (w.2 (b + (7 + mc)))), (3, .int (σ 0)), (0, .ref (w.2 (b))), (1, .int (a)), (2, .int (c))]) dX2_addMule_54 (by decide) rfl ?_
        refine zr_aload X 0 dX2_addMule_56 rfl ?_
        refine zr_ifnull X dX2_addMule_58 ?_
        refine zr_aload X 0 dX2_addMule_61 rfl ?_
        refine zr_iload_n X 3 dX2_addMule_63 rfl rfl ?_
        refine zr_iload_n X 4 dX2_addMule_64 rfl rfl ?_
        refine zr_cV X (As := [.int (a), .int (c)]) (rest := []) (f' := va_up (zPut f b (zHut w cy b γ (upd σ 0 ((σ 0) + 1)))) (b + (7 + mc)) (eMule (mBegin (fun i9 => (upd σ 0 ((σ 0) + 1)) (19 + 9 * mc + i9)) a c))) (st' := []) zc_X4_begin (b + (7 + mc)) (show b + (7 + mc) < w.1 by omega) ((zPut_in (o := 7 + mc) (by omega)).trans (zHut_mule (k := mc) (by omega))) (q9 := _) rfl rfl (k_Mule_begin (show b + (7 + mc) < w.1 by omega) ((zPut_in (o := 7 + mc) (by omega)).trans (zHut_mule (k := mc) (by omega)))) ⟨Nat.le_of_ble_eq_true rfl, Nat.le_of_ble_eq_true rfl⟩ ⟨Nat.le_refl _, Nat.le_refl _⟩ rfl (Nat.le_of_ble_eq_true rfl) zm_2_86 rfl dX2_addMule_65 rfl ?_
        refine zcw (f2 := zPut f b (zHut w cy b γ (setR (upd σ 0 ((σ 0) + 1)) (19 + 9 * mc) 9 (mBegin (fun i9 => (upd σ 0 ((σ 0) + 1)) (19 + 9 * mc + i9)) a c)))) (zu_mule (k := mc) (by omega)) ?_
        refine zr_iload_n X 1 dX2_addMule_68 rfl rfl ?_
        exact zret_i E rfl dX2_addMule_69 (by simp only [hAddMule, hAddMule1, if_neg h2, if_neg h3, if_pos h5]) (by simp only [hAddMule, hAddMule1, if_neg h2, if_neg h3, if_pos h5])
      · refine zr_ldc X zm_2_85 dX2_addMule_31 ?_
        exact zret_i E rfl dX2_addMule_33 (by simp only [hAddMule, hAddMule1, if_neg h2, if_neg h3, if_neg h6]) (by simp only [hAddMule, hAddMule1, if_neg h2, if_neg h3, if_neg h6])
    · refine zr_ldc X zm_2_84 dX2_addMule_20 ?_
      exact zret_i E rfl dX2_addMule_22 (by simp only [hAddMule, hAddMule1, if_neg h2, if_pos h4]) (by simp only [hAddMule, hAddMule1, if_neg h2, if_pos h4])
def hWhy (σ : Nat → Int32) (x n : Int32) : Int32 := if x < 0 then (-1000001) else if (σ 0) ≤ x then (-1000001) else if (zwin n 1 30) = 0 then (-1000001) else if (σ (19 + 9 * x.toNatClampNeg + 2)) = 0 then (if n ≤ (σ (19 + 9 * x.toNatClampNeg + 0)) then (if ((σ 6) + (n * (σ 15))) ≤ (σ 16) then 0 else 3) else 2) else 1
set_option maxHeartbeats 4000000 in
set_option maxRecDepth 100000 in
theorem k_whyNot {l : Launch} {D : va_G} {cy : Nat → ClassId} {w : zW} {f : zF} {b mc bk : Nat} {γ : Nat → Nat} {σ : Nat → Int32} {x : Int32} {n : Int32} (hb : b + 21 ≤ w.1) (hm : σ 0 = nI mc) (hmc : mc ≤ 4) (hg : σ 1 = nI bk) (hbk : bk ≤ 10) (hγ : ∀ k, k < 10 → γ k < 10)  : zSd l D cy yX2_whyNot cX2_whyNot 4 (some .int) 1 22 [.ref (w.2 (b)), .int (x), .int (n)] w (zPut f b (zHut w cy b γ σ)) (some (.int (hWhy σ x n))) (zPut f b (zHut w cy b γ σ)) := by
  refine zSd.intro (by decide) (Nat.le_of_ble_eq_true rfl) (fun G X E => ?_)
  show G (w, 0, 0) (zPut f b (zHut w cy b γ σ)) [(0, .ref (w.2 (b))), (1, .int (x)), (2, .int (n))] 0 []
  refine zr_aload_n X 0 dX2_whyNot_0 rfl rfl ?_
  refine zr_iload_n X 1 dX2_whyNot_1 rfl rfl ?_
  by_cases h1 : x < 0
  · refine zr_cV X (As := [.int (x)]) (rest := []) (f' := zPut f b (zHut w cy b γ σ)) (st' := [.null]) zc_X2_muleAt (b) (show b < w.1 by omega) (zPut_in (o := 0) (by omega)) (q9 := _) rfl rfl (k_muleAtN hb hm hmc hg hbk hγ (Or.inl h1)) ⟨Nat.le_of_ble_eq_true rfl, Nat.le_of_ble_eq_true rfl⟩ ⟨Nat.le_refl _, Nat.le_refl _⟩ rfl (Nat.le_of_ble_eq_true rfl) zm_2_61 rfl dX2_whyNot_2 rfl ?_
    refine zr_astore_nN X (ls' := [(3, .null), (0, .ref (w.2 (b))), (1, .int (x)), (2, .int (n))]) dX2_whyNot_5 rfl (by decide) rfl ?_
    refine zr_aload_nN X 0 dX2_whyNot_6 rfl rfl ?_
    refine zr_ifnullN X (tgt := 20) dX2_whyNot_7 (by decide) ?_
    refine zr_ldc X zm_2_84 dX2_whyNot_20 ?_
    exact zret_i E rfl dX2_whyNot_22 (by simp only [hWhy, if_pos h1]) rfl
  · by_cases h2 : (σ 0) ≤ x
    · refine zr_cV X (As := [.int (x)]) (rest := []) (f' := zPut f b (zHut w cy b γ σ)) (st' := [.null]) zc_X2_muleAt (b) (show b < w.1 by omega) (zPut_in (o := 0) (by omega)) (q9 := _) rfl rfl (k_muleAtN hb hm hmc hg hbk hγ (Or.inr h2)) ⟨Nat.le_of_ble_eq_true rfl, Nat.le_of_ble_eq_true rfl⟩ ⟨Nat.le_refl _, Nat.le_refl _⟩ rfl (Nat.le_of_ble_eq_true rfl) zm_2_61 rfl dX2_whyNot_2 rfl ?_
      refine zr_astore_nN X (ls' := [(3, .null), (0, .ref (w.2 (b))), (1, .int (x)), (2, .int (n))]) dX2_whyNot_5 rfl (by decide) rfl ?_
      refine zr_aload_nN X 0 dX2_whyNot_6 rfl rfl ?_
      refine zr_ifnullN X (tgt := 20) dX2_whyNot_7 (by decide) ?_
      refine zr_ldc X zm_2_84 dX2_whyNot_20 ?_
      exact zret_i E rfl dX2_whyNot_22 (by simp only [hWhy, if_neg h1, if_pos h2]) rfl
    · have q1 := zix3 hm hmc (by decide) h1 h2
      refine zr_cV X (As := [.int (x)]) (rest := []) (f' := zPut f b (zHut w cy b γ σ)) (st' := [.ref (w.2 (b + (7 + x.toNatClampNeg)))]) zc_X2_muleAt (b) (show b < w.1 by omega) (zPut_in (o := 0) (by omega)) (q9 := _) rfl rfl (k_muleAtX hb hm hmc hg hbk hγ h1 h2) ⟨Nat.le_of_ble_eq_true rfl, Nat.le_of_ble_eq_true rfl⟩ ⟨Nat.le_refl _, Nat.le_refl _⟩ rfl (Nat.le_of_ble_eq_true rfl) zm_2_61 rfl dX2_whyNot_2 rfl ?_
      refine zr_astore_n X (ls' := [(3, .ref (w.2 (b + (7 + x.toNatClampNeg)))), (0, .ref (w.2 (b))), (1, .int (x)), (2, .int (n))]) dX2_whyNot_5 rfl (by decide) rfl ?_
      refine zr_aload_n X 0 dX2_whyNot_6 rfl rfl ?_
      refine zr_ifnull X dX2_whyNot_7 ?_
      refine zr_iload_n X 3 dX2_whyNot_10 rfl rfl ?_
      refine zr_iconst X (v := 1) dX2_whyNot_11 (by decide) ?_
      refine zr_bipush X (v := 30) dX2_whyNot_12 (by decide) ?_
      refine zr_cSN X (As := [.int (n), .int (1), .int (30)]) (rest := []) (f' := zPut f b (zHut w cy b γ σ)) (st' := [.int (zwin n 1 30)]) zc_X8_isWithin k_isWithin ⟨Nat.le_of_ble_eq_true rfl, Nat.le_of_ble_eq_true rfl⟩ ⟨Nat.le_refl _, Nat.le_refl _⟩ rfl (Nat.le_of_ble_eq_true rfl) (List.mem_of_getElem? (i := 45) rfl) rfl dX2_whyNot_14 rfl ?_
      refine zr_if_ne X (tgt := 23) dX2_whyNot_17 (by decide) (fun h3 => ?_) (fun h4 => ?_)
      · refine zr_aload_n X 0 dX2_whyNot_23 rfl rfl ?_
        refine zr_getN X zfn_RX2_99 (b + (7 + x.toNatClampNeg)) (show b + (7 + x.toNatClampNeg) < w.1 by omega) ((zPut_in (o := 7 + x.toNatClampNeg) (by omega)).trans (zHut_mule (k := x.toNatClampNeg) (by omega))) (v := .int (σ (19 + 9 * x.toNatClampNeg + 2))) rfl dX2_whyNot_24 ?_
        refine zr_if_eq X (tgt := 32) dX2_whyNot_27 (by decide) (fun h5 => ?_) (fun h6 => ?_)
        · refine zr_iload_n X 3 dX2_whyNot_32 rfl rfl ?_
          refine zr_aload_n X 0 dX2_whyNot_33 rfl rfl ?_
          refine zr_getN X zfn_RX2_102 (b + (7 + x.toNatClampNeg)) (show b + (7 + x.toNatClampNeg) < w.1 by omega) ((zPut_in (o := 7 + x.toNatClampNeg) (by omega)).trans (zHut_mule (k := x.toNatClampNeg) (by omega))) (v := .int (σ (19 + 9 * x.toNatClampNeg + 0))) rfl dX2_whyNot_34 ?_
          refine zr_icmp_le X (tgt := 42) dX2_whyNot_37 (by decide) (fun h7 => ?_) (fun h8 => ?_)
          · refine zr_aload_n X 1 dX2_whyNot_42 rfl rfl ?_
            refine zr_get X zfd_RX2_33 (b) (show b < w.1 by omega) (zPut_in (o := 0) (by omega)) (v := .ref (w.2 (b + 5))) rfl dX2_whyNot_43 ?_
            refine zr_getN X zfn_RX2_105 (b + 5) (show b + 5 < w.1 by omega) (zPut_in (o := 5) (by omega)) (v := .int (σ 6)) rfl dX2_whyNot_46 ?_
            refine zr_iload_n X 3 dX2_whyNot_49 rfl rfl ?_
            refine zr_aload_n X 1 dX2_whyNot_50 rfl rfl ?_
            refine zr_get X zfd_RX2_40 (b) (show b < w.1 by omega) (zPut_in (o := 0) (by omega)) (v := .ref (w.2 (b + 6))) rfl dX2_whyNot_51 ?_
            refine zr_getN X zfn_RX2_108 (b + 6) (show b + 6 < w.1 by omega) (zPut_in (o := 6) (by omega)) (v := .int (σ 15)) rfl dX2_whyNot_54 ?_
            refine zr_imul X dX2_whyNot_57 ?_
            refine zr_iadd X dX2_whyNot_58 ?_
            refine zr_aload_n X 1 dX2_whyNot_59 rfl rfl ?_
            refine zr_get X zfd_RX2_40 (b) (show b < w.1 by omega) (zPut_in (o := 0) (by omega)) (v := .ref (w.2 (b + 6))) rfl dX2_whyNot_60 ?_
            refine zr_getN X zfn_RX2_111 (b + 6) (show b + 6 < w.1 by omega) (zPut_in (o := 6) (by omega)) (v := .int (σ 16)) rfl dX2_whyNot_63 ?_
            refine zr_icmp_le X (tgt := 73) dX2_whyNot_66 (by decide) (fun h9 => ?_) (fun h10 => ?_)
            · refine zr_iconst X (v := 0) dX2_whyNot_73 (by decide) ?_
              exact zret_i E rfl dX2_whyNot_74 (by simp only [hWhy, if_neg h1, if_neg h2, if_neg h3, if_pos h5, if_pos h7, if_pos h9]) rfl
            · refine zr_iconst X (v := 3) dX2_whyNot_69 (by decide) ?_
              refine zr_goto X (tgt := 74) dX2_whyNot_70 (by decide) ?_
              exact zret_i E rfl dX2_whyNot_74 (by simp only [hWhy, if_neg h1, if_neg h2, if_neg h3, if_pos h5, if_pos h7, if_neg h10]) rfl
          · refine zr_iconst X (v := 2) dX2_whyNot_40 (by decide) ?_
            exact zret_i E rfl dX2_whyNot_41 (by simp only [hWhy, if_neg h1, if_neg h2, if_neg h3, if_pos h5, if_neg h8]) rfl
        · refine zr_iconst X (v := 1) dX2_whyNot_30 (by decide) ?_
          exact zret_i E rfl dX2_whyNot_31 (by simp only [hWhy, if_neg h1, if_neg h2, if_neg h3, if_neg h6]) rfl
      · refine zr_ldc X zm_2_84 dX2_whyNot_20 ?_
        exact zret_i E rfl dX2_whyNot_22 (by simp only [hWhy, if_neg h1, if_neg h2, if_pos h4]) rfl
def hSend1 (σ : Nat → Int32) (k : Nat) (n : Int32) : Nat → Int32 := setR σ (19 + 9 * k) 9 (mLeave (fun i => σ (19 + 9 * k + i)) n (σ 3))
def hSend2 (σ : Nat → Int32) (n : Int32) : Int32 × (Nat → Int32) := (σ 6 + n * σ 15, upd (upd σ 7 (σ 7 + n)) 6 (σ 6 + n * σ 15))
def hSend (σ : Nat → Int32) (x n : Int32) : Int32 × (Nat → Int32) := if (hWhy σ x n) = (-1000001) then (-1000001, σ) else if (hWhy σ x n) = 0 then hSend2 (hSend1 σ x.toNatClampNeg n) n else (-1000002, σ)
set_option maxHeartbeats 4000000 in
set_option maxRecDepth 100000 in
theorem k_sendMule {l : Launch} {D : va_G} {cy : Nat → ClassId} {w : zW} {f : zF} {b mc bk : Nat} {γ : Nat → Nat} {σ : Nat → Int32} {x : Int32} {n : Int32} (hb : b + 21 ≤ w.1) (hm : σ 0 = nI mc) (hmc : mc ≤ 4) (hg : σ 1 = nI bk) (hbk : bk ≤ 10) (hγ : ∀ k, k < 10 → γ k < 10)  : zSd l D cy yX2_sendMule cX2_sendMule 5 (some .int) 2 45 [.ref (w.2 (b)), .int (x), .int (n)] w (zPut f b (zHut w cy b γ σ)) (some (.int ((hSend σ x n).1))) (zPut f b (zHut w cy b γ (hSend σ x n).2)) := by
  refine zSd.intro (by decide) (Nat.le_of_ble_eq_true rfl) (fun G X E => ?_)
  show G (w, 0, 0) (zPut f b (zHut w cy b γ σ)) [(0, .ref (w.2 (b))), (1, .int (x)), (2, .int (n))] 0 []
  refine zr_aload_n X 0 dX2_sendMule_0 rfl rfl ?_
  refine zr_iload_n X 1 dX2_sendMule_1 rfl rfl ?_
  refine zr_iload_n X 2 dX2_sendMule_2 rfl rfl ?_
  refine zr_cV X (As := [.int (x), .int (n)]) (rest := []) (f' := zPut f b (zHut w cy b γ σ)) (st' := [.int (hWhy σ x n)]) zc_X2_whyNot (b) (show b < w.1 by omega) (zPut_in (o := 0) (by omega)) (q9 := _) rfl rfl (k_whyNot hb hm hmc hg hbk hγ) ⟨Nat.le_of_ble_eq_true rfl, Nat.le_of_ble_eq_true rfl⟩ ⟨Nat.le_refl _, Nat.le_refl _⟩ rfl (Nat.le_of_ble_eq_true rfl) zm_2_111 rfl dX2_sendMule_3 rfl ?_
  refine zr_istore_n X (ls' := [(3, .int (hWhy σ x n)), (0, .ref (w.2 (b))), (1, .int (x)), (2, .int (n))]) dX2_sendMule_6 rfl (by decide) rfl ?_
  refine zr_iload_n X 0 dX2_sendMule_7 rfl rfl ?_
  refine zr_ldc X zm_2_84 dX2_sendMule_8 ?_
  refine zr_icmp_ne X (tgt := 16) dX2_sendMule_10 (by decide) (fun h1 => ?_) (fun h2 => ?_)
  · refine zr_aload_n X 1 dX2_sendMule_16 rfl rfl ?_
    refine zr_iload_n X 2 dX2_sendMule_17 rfl rfl ?_
    have p1 : ¬ x < 0 := fun h => h1 (by simp only [hWhy, if_pos h])
    have p2 : ¬ σ 0 ≤ x := fun h => h1 (by simp only [hWhy, if_neg p1, if_pos h])
    have q9 := zix3 hm hmc (by decide) p1 p2
    refine zr_cV X (As := [.int (x)]) (rest := []) (f' := zPut f b (zHut w cy b γ σ)) (st' := [.ref (w.2 (b + (7 + x.toNatClampNeg)))]) zc_X2_muleAt (b) (show b < w.1 by omega) (zPut_in (o := 0) (by omega)) (q9 := _) rfl rfl (k_muleAtX hb hm hmc hg hbk hγ p1 p2) ⟨Nat.le_of_ble_eq_true rfl, Nat.le_of_ble_eq_true rfl⟩ ⟨Nat.le_refl _, Nat.le_refl _⟩ rfl (Nat.le_of_ble_eq_true rfl) zm_2_61 rfl dX2_sendMule_18 rfl ?_
    refine zr_astore X (ls' := [(4, .ref (w.2 (b + (7 + x.toNatClampNeg)))), (3, .int (hWhy σ x n)), (0, .ref (w.2 (b))), (1, .int (x)), (2, .int (n))]) dX2_sendMule_21 (by decide) rfl ?_
    refine zr_iload_n X 1 dX2_sendMule_23 rfl rfl ?_
    refine zr_if_ne X (tgt := 32) dX2_sendMule_24 (by decide) (fun h3 => ?_) (fun h4 => ?_)
    · refine zr_ldc X zm_2_115 dX2_sendMule_32 ?_
      exact zret_i E rfl dX2_sendMule_34 (by simp only [hSend, hSend1, hSend2, if_neg h1, if_neg h3]) (by simp only [hSend, hSend1, hSend2, if_neg h1, if_neg h3])
    · refine zr_aload X 0 dX2_sendMule_27 rfl ?_
      refine zr_ifnonnull X (tgt := 35) dX2_sendMule_29 (by decide) ?_
      refine zr_aload X 0 dX2_sendMule_35 rfl ?_
      refine zr_iload_n X 4 dX2_sendMule_37 rfl rfl ?_
      refine zr_aload_n X 2 dX2_sendMule_38 rfl rfl ?_
      refine zr_get X zfd_RX2_59 (b) (show b < w.1 by omega) (zPut_in (o := 0) (by omega)) (v := .int (σ 3)) rfl dX2_sendMule_39 ?_
      refine zr_cV X (As := [.int (n), .int (σ 3)]) (rest := []) (f' := va_up (zPut f b (zHut w cy b γ σ)) (b + (7 + x.toNatClampNeg)) (eMule (mLeave (fun i9 => σ (19 + 9 * x.toNatClampNeg + i9)) n (σ 3)))) (st' := []) zc_X4_leave (b + (7 + x.toNatClampNeg)) (show b + (7 + x.toNatClampNeg) < w.1 by omega) ((zPut_in (o := 7 + x.toNatClampNeg) (by omega)).trans (zHut_mule (k := x.toNatClampNeg) (by omega))) (q9 := _) rfl rfl (k_Mule_leave (show b + (7 + x.toNatClampNeg) < w.1 by omega) ((zPut_in (o := 7 + x.toNatClampNeg) (by omega)).trans (zHut_mule (k := x.toNatClampNeg) (by omega)))) ⟨Nat.le_of_ble_eq_true rfl, Nat.le_of_ble_eq_true rfl⟩ ⟨Nat.le_refl _, Nat.le_refl _⟩ rfl (Nat.le_of_ble_eq_true rfl) zm_2_116 rfl dX2_sendMule_42 rfl ?_
      refine zcw (f2 := zPut f b (zHut w cy b γ (setR σ (19 + 9 * x.toNatClampNeg) 9 (mLeave (fun i9 => σ (19 + 9 * x.toNatClampNeg + i9)) n (σ 3))))) (zu_mule (k := x.toNatClampNeg) (by omega)) ?_
      refine zr_aload_n X 2 dX2_sendMule_45 rfl rfl ?_
      refine zr_get X zfd_RX2_33 (b) (show b < w.1 by omega) (zPut_in (o := 0) (by omega)) (v := .ref (w.2 (b + 5))) rfl dX2_sendMule_46 ?_
      refine zr_dup X dX2_sendMule_49 rfl ?_
      refine zr_getN X zfn_RX2_122 (b + 5) (show b + 5 < w.1 by omega) (zPut_in (o := 5) (by omega)) (v := .int ((setR σ (19 + 9 * x.toNatClampNeg) 9 (mLeave (fun i9 => σ (19 + 9 * x.toNatClampNeg + i9)) n (σ 3))) 7)) rfl dX2_sendMule_50 ?_
      refine zr_iload_n X 4 dX2_sendMule_53 rfl rfl ?_
      refine zr_iadd X dX2_sendMule_54 ?_
      refine zr_putN X zfn_RX2_122 zty_3_2 (b + 5) (show b + 5 < w.1 by omega) (zPut_in (o := 5) (by omega)) rfl rfl (Nat.le_of_ble_eq_true rfl) (eLedger_set _ _ 2 (by decide)) dX2_sendMule_55 ?_
      refine zcw (f2 := zPut f b (zHut w cy b γ (upd (setR σ (19 + 9 * x.toNatClampNeg) 9 (mLeave (fun i9 => σ (19 + 9 * x.toNatClampNeg + i9)) n (σ 3))) 7 (((setR σ (19 + 9 * x.toNatClampNeg) 9 (mLeave (fun i9 => σ (19 + 9 * x.toNatClampNeg + i9)) n (σ 3))) 7) + n)))) (zu_ledger (i := 2) (by decide)) ?_
      refine zr_aload_n X 2 dX2_sendMule_58 rfl rfl ?_
      refine zr_get X zfd_RX2_33 (b) (show b < w.1 by omega) (zPut_in (o := 0) (by omega)) (v := .ref (w.2 (b + 5))) rfl dX2_sendMule_59 ?_
      refine zr_dup X dX2_sendMule_62 rfl ?_
      refine zr_getN X zfn_RX2_105 (b + 5) (show b + 5 < w.1 by omega) (zPut_in (o := 5) (by omega)) (v := .int ((setR σ (19 + 9 * x.toNatClampNeg) 9 (mLeave (fun i9 => σ (19 + 9 * x.toNatClampNeg + i9)) n (σ 3))) 6)) rfl dX2_sendMule_63 ?_
      refine zr_iload_n X 4 dX2_sendMule_66 rfl rfl ?_
      refine zr_aload_n X 2 dX2_sendMule_67 rfl rfl ?_
      refine zr_get X zfd_RX2_40 (b) (show b < w.1 by omega) (zPut_in (o := 0) (by omega)) (v := .ref (w.2 (b + 6))) rfl dX2_sendMule_68 ?_
      refine zr_getN X zfn_RX2_108 (b + 6) (show b + 6 < w.1 by omega) (zPut_in (o := 6) (by omega)) (v := .int ((setR σ (19 + 9 * x.toNatClampNeg) 9 (mLeave (fun i9 => σ (19 + 9 * x.toNatClampNeg + i9)) n (σ 3))) 15)) rfl dX2_sendMule_71 ?_
      refine zr_imul X dX2_sendMule_74 ?_
      refine zr_iadd X dX2_sendMule_75 ?_
      refine zr_putN X zfn_RX2_105 zty_3_1 (b + 5) (show b + 5 < w.1 by omega) (zPut_in (o := 5) (by omega)) rfl rfl (Nat.le_of_ble_eq_true rfl) (eLedger_set _ _ 1 (by decide)) dX2_sendMule_76 ?_
      refine zcw (f2 := zPut f b (zHut w cy b γ (upd (upd (setR σ (19 + 9 * x.toNatClampNeg) 9 (mLeave (fun i9 => σ (19 + 9 * x.toNatClampNeg + i9)) n (σ 3))) 7 (((setR σ (19 + 9 * x.toNatClampNeg) 9 (mLeave (fun i9 => σ (19 + 9 * x.toNatClampNeg + i9)) n (σ 3))) 7) + n)) 6 (((setR σ (19 + 9 * x.toNatClampNeg) 9 (mLeave (fun i9 => σ (19 + 9 * x.toNatClampNeg + i9)) n (σ 3))) 6) + (n * ((setR σ (19 + 9 * x.toNatClampNeg) 9 (mLeave (fun i9 => σ (19 + 9 * x.toNatClampNeg + i9)) n (σ 3))) 15)))))) (zu_ledger (i := 1) (by decide)) ?_
      refine zr_aload_n X 2 dX2_sendMule_79 rfl rfl ?_
      refine zr_get X zfd_RX2_33 (b) (show b < w.1 by omega) (zPut_in (o := 0) (by omega)) (v := .ref (w.2 (b + 5))) rfl dX2_sendMule_80 ?_
      refine zr_getN X zfn_RX2_105 (b + 5) (show b + 5 < w.1 by omega) (zPut_in (o := 5) (by omega)) (v := .int (((setR σ (19 + 9 * x.toNatClampNeg) 9 (mLeave (fun i9 => σ (19 + 9 * x.toNatClampNeg + i9)) n (σ 3))) 6) + (n * ((setR σ (19 + 9 * x.toNatClampNeg) 9 (mLeave (fun i9 => σ (19 + 9 * x.toNatClampNeg + i9)) n (σ 3))) 15)))) rfl dX2_sendMule_83 ?_
      exact zret_i E rfl dX2_sendMule_86 (by simp only [hSend, hSend1, hSend2, if_neg h1, if_pos h4]) (by simp only [hSend, hSend1, hSend2, if_neg h1, if_pos h4])
  · refine zr_ldc X zm_2_84 dX2_sendMule_13 ?_
    exact zret_i E rfl dX2_sendMule_15 (by simp only [hSend, hSend1, hSend2, if_pos h2]) (by simp only [hSend, hSend1, hSend2, if_pos h2])
def hRest (σ : Nat → Int32) (x : Int32) : Int32 × (Nat → Int32) := if x < 0 then (-1000001, σ) else if (σ 0) ≤ x then (-1000001, σ) else if (σ (19 + 9 * x.toNatClampNeg + 2)) = 0 then (σ (19 + 9 * x.toNatClampNeg + 6), upd σ (19 + 9 * x.toNatClampNeg + 6) 0) else (-1000002, σ)
set_option maxHeartbeats 4000000 in
set_option maxRecDepth 100000 in
theorem k_restMule {l : Launch} {D : va_G} {cy : Nat → ClassId} {w : zW} {f : zF} {b mc bk : Nat} {γ : Nat → Nat} {σ : Nat → Int32} {x : Int32} (hb : b + 21 ≤ w.1) (hm : σ 0 = nI mc) (hmc : mc ≤ 4) (hg : σ 1 = nI bk) (hbk : bk ≤ 10) (hγ : ∀ k, k < 10 → γ k < 10)  : zSd l D cy yX2_restMule cX2_restMule 4 (some .int) 1 21 [.ref (w.2 (b)), .int (x)] w (zPut f b (zHut w cy b γ σ)) (some (.int ((hRest σ x).1))) (zPut f b (zHut w cy b γ (hRest σ x).2)) := by
  refine zSd.intro (by decide) (Nat.le_of_ble_eq_true rfl) (fun G X E => ?_)
  show G (w, 0, 0) (zPut f b (zHut w cy b γ σ)) [(0, .ref (w.2 (b))), (1, .int (x))] 0 []
  refine zr_aload_n X 0 dX2_restMule_0 rfl rfl ?_
  refine zr_iload_n X 1 dX2_restMule_1 rfl rfl ?_
  by_cases h1 : x < 0
  · refine zr_cV X (As := [.int (x)]) (rest := []) (f' := zPut f b (zHut w cy b γ σ)) (st' := [.null]) zc_X2_muleAt (b) (show b < w.1 by omega) (zPut_in (o := 0) (by omega)) (q9 := _) rfl rfl (k_muleAtN hb hm hmc hg hbk hγ (Or.inl h1)) ⟨Nat.le_of_ble_eq_true rfl, Nat.le_of_ble_eq_true rfl⟩ ⟨Nat.le_refl _, Nat.le_refl _⟩ rfl (Nat.le_of_ble_eq_true rfl) zm_2_61 rfl dX2_restMule_2 rfl ?_
    refine zr_astore_nN X (ls' := [(2, .null), (0, .ref (w.2 (b))), (1, .int (x))]) dX2_restMule_5 rfl (by decide) rfl ?_
    refine zr_aload_nN X 0 dX2_restMule_6 rfl rfl ?_
    refine zr_ifnonnullN X dX2_restMule_7 ?_
    refine zr_ldc X zm_2_84 dX2_restMule_10 ?_
    exact zret_i E rfl dX2_restMule_12 (by simp only [hRest, if_pos h1]) (by simp only [hRest, if_pos h1])
  · by_cases h2 : (σ 0) ≤ x
    · refine zr_cV X (As := [.int (x)]) (rest := []) (f' := zPut f b (zHut w cy b γ σ)) (st' := [.null]) zc_X2_muleAt (b) (show b < w.1 by omega) (zPut_in (o := 0) (by omega)) (q9 := _) rfl rfl (k_muleAtN hb hm hmc hg hbk hγ (Or.inr h2)) ⟨Nat.le_of_ble_eq_true rfl, Nat.le_of_ble_eq_true rfl⟩ ⟨Nat.le_refl _, Nat.le_refl _⟩ rfl (Nat.le_of_ble_eq_true rfl) zm_2_61 rfl dX2_restMule_2 rfl ?_
      refine zr_astore_nN X (ls' := [(2, .null), (0, .ref (w.2 (b))), (1, .int (x))]) dX2_restMule_5 rfl (by decide) rfl ?_
      refine zr_aload_nN X 0 dX2_restMule_6 rfl rfl ?_
      refine zr_ifnonnullN X dX2_restMule_7 ?_
      refine zr_ldc X zm_2_84 dX2_restMule_10 ?_
      exact zret_i E rfl dX2_restMule_12 (by simp only [hRest, if_neg h1, if_pos h2]) (by simp only [hRest, if_neg h1, if_pos h2])
    · have q1 := zix3 hm hmc (by decide) h1 h2
      refine zr_cV X (As := [.int (x)]) (rest := []) (f' := zPut f b (zHut w cy b γ σ)) (st' := [.ref (w.2 (b + (7 + x.toNatClampNeg)))]) zc_X2_muleAt (b) (show b < w.1 by omega) (zPut_in (o := 0) (by omega)) (q9 := _) rfl rfl (k_muleAtX hb hm hmc hg hbk hγ h1 h2) ⟨Nat.le_of_ble_eq_true rfl, Nat.le_of_ble_eq_true rfl⟩ ⟨Nat.le_refl _, Nat.le_refl _⟩ rfl (Nat.le_of_ble_eq_true rfl) zm_2_61 rfl dX2_restMule_2 rfl ?_
      refine zr_astore_n X (ls' := [(2, .ref (w.2 (b + (7 + x.toNatClampNeg)))), (0, .ref (w.2 (b))), (1, .int (x))]) dX2_restMule_5 rfl (by decide) rfl ?_
      refine zr_aload_n X 0 dX2_restMule_6 rfl rfl ?_
      refine zr_ifnonnull X (tgt := 13) dX2_restMule_7 (by decide) ?_
      refine zr_aload_n X 0 dX2_restMule_13 rfl rfl ?_
      refine zr_getN X zfn_RX2_99 (b + (7 + x.toNatClampNeg)) (show b + (7 + x.toNatClampNeg) < w.1 by omega) ((zPut_in (o := 7 + x.toNatClampNeg) (by omega)).trans (zHut_mule (k := x.toNatClampNeg) (by omega))) (v := .int (σ (19 + 9 * x.toNatClampNeg + 2))) rfl dX2_restMule_14 ?_
      refine zr_if_eq X (tgt := 23) dX2_restMule_17 (by decide) (fun h3 => ?_) (fun h4 => ?_)
      · refine zr_aload_n X 0 dX2_restMule_23 rfl rfl ?_
        refine zr_getN X zfn_RX2_125 (b + (7 + x.toNatClampNeg)) (show b + (7 + x.toNatClampNeg) < w.1 by omega) ((zPut_in (o := 7 + x.toNatClampNeg) (by omega)).trans (zHut_mule (k := x.toNatClampNeg) (by omega))) (v := .int (σ (19 + 9 * x.toNatClampNeg + 6))) rfl dX2_restMule_24 ?_
        refine zr_istore_n X (ls' := [(3, .int (σ (19 + 9 * x.toNatClampNeg + 6))), (2, .ref (w.2 (b + (7 + x.toNatClampNeg)))), (0, .ref (w.2 (b))), (1, .int (x))]) dX2_restMule_27 rfl (by decide) rfl ?_
        refine zr_aload_n X 1 dX2_restMule_28 rfl rfl ?_
        refine zr_iconst X (v := 0) dX2_restMule_29 (by decide) ?_
        refine zr_putN X zfn_RX2_125 zty_4_6 (b + (7 + x.toNatClampNeg)) (show b + (7 + x.toNatClampNeg) < w.1 by omega) ((zPut_in (o := 7 + x.toNatClampNeg) (by omega)).trans (zHut_mule (k := x.toNatClampNeg) (by omega))) rfl rfl (Nat.le_of_ble_eq_true rfl) (eMule_set _ _ 6 (by decide)) dX2_restMule_30 ?_
        refine zcw (f2 := zPut f b (zHut w cy b γ (upd σ (19 + 9 * x.toNatClampNeg + 6) 0))) (zu_muleF (k := x.toNatClampNeg) (i := 6) (by omega) (by decide)) ?_
        refine zr_iload_n X 0 dX2_restMule_33 rfl rfl ?_
        exact zret_i E rfl dX2_restMule_34 (by simp only [hRest, if_neg h1, if_neg h2, if_pos h3]) (by simp only [hRest, if_neg h1, if_neg h2, if_pos h3])
      · refine zr_ldc X zm_2_115 dX2_restMule_20 ?_
        exact zret_i E rfl dX2_restMule_22 (by simp only [hRest, if_neg h1, if_neg h2, if_neg h4]) (by simp only [hRest, if_neg h1, if_neg h2, if_neg h4])
def hPay (σ : Nat → Int32) (m : Int32) : Int32 × (Nat → Int32) := if (zwin m 1 500) = 0 then (-1000001, σ) else if (σ 5) < m then (-1000002, σ) else if m ≤ (σ 6) then (σ 6 - m, upd (upd (upd σ 5 (σ 5 - m)) 6 (σ 6 - m)) 14 (σ 14 + m)) else (-1000002, σ)
set_option maxHeartbeats 4000000 in
set_option maxRecDepth 100000 in
theorem k_payBaker {l : Launch} {D : va_G} {cy : Nat → ClassId} {w : zW} {f : zF} {b mc bk : Nat} {γ : Nat → Nat} {σ : Nat → Int32} {m : Int32} (hb : b + 21 ≤ w.1) (hm : σ 0 = nI mc) (hmc : mc ≤ 4) (hg : σ 1 = nI bk) (hbk : bk ≤ 10) (hγ : ∀ k, k < 10 → γ k < 10)  : zSd l D cy yX2_payBaker cX2_payBaker 2 (some .int) 1 22 [.ref (w.2 (b)), .int (m)] w (zPut f b (zHut w cy b γ σ)) (some (.int ((hPay σ m).1))) (zPut f b (zHut w cy b γ (hPay σ m).2)) := by
  refine zSd.intro (by decide) (Nat.le_of_ble_eq_true rfl) (fun G X E => ?_)
  show G (w, 0, 0) (zPut f b (zHut w cy b γ σ)) [(0, .ref (w.2 (b))), (1, .int (m))] 0 []
  refine zr_iload_n X 1 dX2_payBaker_0 rfl rfl ?_
  refine zr_iconst X (v := 1) dX2_payBaker_1 (by decide) ?_
  refine zr_sipush X (v := 500) dX2_payBaker_2 (by decide) ?_
  refine zr_cSN X (As := [.int (m), .int (1), .int (500)]) (rest := []) (f' := zPut f b (zHut w cy b γ σ)) (st' := [.int (zwin m 1 500)]) zc_X8_isWithin k_isWithin ⟨Nat.le_of_ble_eq_true rfl, Nat.le_of_ble_eq_true rfl⟩ ⟨Nat.le_refl _, Nat.le_refl _⟩ rfl (Nat.le_of_ble_eq_true rfl) (List.mem_of_getElem? (i := 45) rfl) rfl dX2_payBaker_5 rfl ?_
  refine zr_if_ne X (tgt := 14) dX2_payBaker_8 (by decide) (fun h1 => ?_) (fun h2 => ?_)
  · refine zr_aload_n X 0 dX2_payBaker_14 rfl rfl ?_
    refine zr_get X zfd_RX2_33 (b) (show b < w.1 by omega) (zPut_in (o := 0) (by omega)) (v := .ref (w.2 (b + 5))) rfl dX2_payBaker_15 ?_
    refine zr_getN X zfn_RX2_128 (b + 5) (show b + 5 < w.1 by omega) (zPut_in (o := 5) (by omega)) (v := .int (σ 5)) rfl dX2_payBaker_18 ?_
    refine zr_iload_n X 1 dX2_payBaker_21 rfl rfl ?_
    refine zr_icmp_lt X (tgt := 36) dX2_payBaker_22 (by decide) (fun h3 => ?_) (fun h4 => ?_)
    · refine zr_ldc X zm_2_115 dX2_payBaker_36 ?_
      exact zret_i E rfl dX2_payBaker_38 (by simp only [hPay, if_neg h1, if_pos h3]) (by simp only [hPay, if_neg h1, if_pos h3])
    · refine zr_aload_n X 0 dX2_payBaker_25 rfl rfl ?_
      refine zr_get X zfd_RX2_33 (b) (show b < w.1 by omega) (zPut_in (o := 0) (by omega)) (v := .ref (w.2 (b + 5))) rfl dX2_payBaker_26 ?_
      refine zr_getN X zfn_RX2_105 (b + 5) (show b + 5 < w.1 by omega) (zPut_in (o := 5) (by omega)) (v := .int (σ 6)) rfl dX2_payBaker_29 ?_
      refine zr_iload_n X 1 dX2_payBaker_32 rfl rfl ?_
      refine zr_icmp_ge X (tgt := 39) dX2_payBaker_33 (by decide) (fun h5 => ?_) (fun h6 => ?_)
      · refine zr_aload_n X 0 dX2_payBaker_39 rfl rfl ?_
        refine zr_get X zfd_RX2_33 (b) (show b < w.1 by omega) (zPut_in (o := 0) (by omega)) (v := .ref (w.2 (b + 5))) rfl dX2_payBaker_40 ?_
        refine zr_dup X dX2_payBaker_43 rfl ?_
        refine zr_getN X zfn_RX2_128 (b + 5) (show b + 5 < w.1 by omega) (zPut_in (o := 5) (by omega)) (v := .int (σ 5)) rfl dX2_payBaker_44 ?_
        refine zr_iload_n X 1 dX2_payBaker_47 rfl rfl ?_
        refine zr_isub X dX2_payBaker_48 ?_
        refine zr_putN X zfn_RX2_128 zty_3_0 (b + 5) (show b + 5 < w.1 by omega) (zPut_in (o := 5) (by omega)) rfl rfl (Nat.le_of_ble_eq_true rfl) (eLedger_set _ _ 0 (by decide)) dX2_payBaker_49 ?_
        refine zcw (f2 := zPut f b (zHut w cy b γ (upd σ 5 ((σ 5) - m)))) (zu_ledger (i := 0) (by decide)) ?_
        refine zr_aload_n X 0 dX2_payBaker_52 rfl rfl ?_
        refine zr_get X zfd_RX2_33 (b) (show b < w.1 by omega) (zPut_in (o := 0) (by omega)) (v := .ref (w.2 (b + 5))) rfl dX2_payBaker_53 ?_
        refine zr_dup X dX2_payBaker_56 rfl ?_
        refine zr_getN X zfn_RX2_105 (b + 5) (show b + 5 < w.1 by omega) (zPut_in (o := 5) (by omega)) (v := .int (σ 6)) rfl dX2_payBaker_57 ?_
        refine zr_iload_n X 1 dX2_payBaker_60 rfl rfl ?_
        refine zr_isub X dX2_payBaker_61 ?_
        refine zr_putN X zfn_RX2_105 zty_3_1 (b + 5) (show b + 5 < w.1 by omega) (zPut_in (o := 5) (by omega)) rfl rfl (Nat.le_of_ble_eq_true rfl) (eLedger_set _ _ 1 (by decide)) dX2_payBaker_62 ?_
        refine zcw (f2 := zPut f b (zHut w cy b γ (upd (upd σ 5 ((σ 5) - m)) 6 ((σ 6) - m)))) (zu_ledger (i := 1) (by decide)) ?_
        refine zr_aload_n X 0 dX2_payBaker_65 rfl rfl ?_
        refine zr_get X zfd_RX2_33 (b) (show b < w.1 by omega) (zPut_in (o := 0) (by omega)) (v := .ref (w.2 (b + 5))) rfl dX2_payBaker_66 ?_
        refine zr_dup X dX2_payBaker_69 rfl ?_
        refine zr_getN X zfn_RX2_131 (b + 5) (show b + 5 < w.1 by omega) (zPut_in (o := 5) (by omega)) (v := .int (σ 14)) rfl dX2_payBaker_70 ?_
        refine zr_iload_n X 1 dX2_payBaker_73 rfl rfl ?_
        refine zr_iadd X dX2_payBaker_74 ?_
        refine zr_putN X zfn_RX2_131 zty_3_9 (b + 5) (show b + 5 < w.1 by omega) (zPut_in (o := 5) (by omega)) rfl rfl (Nat.le_of_ble_eq_true rfl) (eLedger_set _ _ 9 (by decide)) dX2_payBaker_75 ?_
        refine zcw (f2 := zPut f b (zHut w cy b γ (upd (upd (upd σ 5 ((σ 5) - m)) 6 ((σ 6) - m)) 14 ((σ 14) + m)))) (zu_ledger (i := 9) (by decide)) ?_
        refine zr_aload_n X 0 dX2_payBaker_78 rfl rfl ?_
        refine zr_get X zfd_RX2_33 (b) (show b < w.1 by omega) (zPut_in (o := 0) (by omega)) (v := .ref (w.2 (b + 5))) rfl dX2_payBaker_79 ?_
        refine zr_getN X zfn_RX2_105 (b + 5) (show b + 5 < w.1 by omega) (zPut_in (o := 5) (by omega)) (v := .int ((σ 6) - m)) rfl dX2_payBaker_82 ?_
        exact zret_i E rfl dX2_payBaker_85 (by simp only [hPay, if_neg h1, if_neg h4, if_pos h5]) (by simp only [hPay, if_neg h1, if_neg h4, if_pos h5])
      · refine zr_ldc X zm_2_115 dX2_payBaker_36 ?_
        exact zret_i E rfl dX2_payBaker_38 (by simp only [hPay, if_neg h1, if_neg h4, if_neg h6]) (by simp only [hPay, if_neg h1, if_neg h4, if_neg h6])
  · refine zr_ldc X zm_2_84 dX2_payBaker_11 ?_
    exact zret_i E rfl dX2_payBaker_13 (by simp only [hPay, if_pos h2]) (by simp only [hPay, if_pos h2])
def hBook1 (γ : Nat → Nat) (bk : Nat) (σ : Nat → Int32) (p d n : Int32) : Nat → Int32 := setR (upd (upd σ 1 (σ 1 + 1)) 2 (σ 2 + 1)) (55 + 6 * γ bk) 6 (gBegin (fun i => (upd (upd σ 1 (σ 1 + 1)) 2 (σ 2 + 1)) (55 + 6 * γ bk + i)) (σ 2) p (σ 3 + d) n)
def hBook (bk : Nat) (γ : Nat → Nat) (σ : Nat → Int32) (p d n : Int32) : Int32 × (Nat → Int32) := if (zwin p 1 12) = 0 then (-1000001, σ) else if (zwin d 0 60) = 0 then (-1000001, σ) else if (zwin n 1 9) = 0 then (-1000001, σ) else if (σ 1) < 10 then (σ 2, hBook1 γ bk σ p d n) else (-1000003, σ)
set_option maxHeartbeats 4000000 in
set_option maxRecDepth 100000 in
theorem k_bookGroup {l : Launch} {D : va_G} {cy : Nat → ClassId} {w : zW} {f : zF} {b mc bk : Nat} {γ : Nat → Nat} {σ : Nat → Int32} {p : Int32} {d : Int32} {n : Int32} (hb : b + 21 ≤ w.1) (hm : σ 0 = nI mc) (hmc : mc ≤ 4) (hg : σ 1 = nI bk) (hbk : bk ≤ 10) (hγ : ∀ k, k < 10 → γ k < 10)  : zSd l D cy yX2_bookGroup cX2_bookGroup 6 (some .int) 1 24 [.ref (w.2 (b)), .int (p), .int (d), .int (n)] w (zPut f b (zHut w cy b γ σ)) (some (.int ((hBook bk γ σ p d n).1))) (zPut f b (zHut w cy b γ (hBook bk γ σ p d n).2)) := by
  refine zSd.intro (by decide) (Nat.le_of_ble_eq_true rfl) (fun G X E => ?_)
  show G (w, 0, 0) (zPut f b (zHut w cy b γ σ)) [(0, .ref (w.2 (b))), (1, .int (p)), (2, .int (d)), (3, .int (n))] 0 []
  refine zr_iload_n X 1 dX2_bookGroup_0 rfl rfl ?_
  refine zr_iconst X (v := 1) dX2_bookGroup_1 (by decide) ?_
  refine zr_bipush X (v := 12) dX2_bookGroup_2 (by decide) ?_
  refine zr_cSN X (As := [.int (p), .int (1), .int (12)]) (rest := []) (f' := zPut f b (zHut w cy b γ σ)) (st' := [.int (zwin p 1 12)]) zc_X8_isWithin k_isWithin ⟨Nat.le_of_ble_eq_true rfl, Nat.le_of_ble_eq_true rfl⟩ ⟨Nat.le_refl _, Nat.le_refl _⟩ rfl (Nat.le_of_ble_eq_true rfl) (List.mem_of_getElem? (i := 45) rfl) rfl dX2_bookGroup_4 rfl ?_
  refine zr_if_eq X (tgt := 30) dX2_bookGroup_7 (by decide) (fun h1 => ?_) (fun h2 => ?_)
  · refine zr_ldc X zm_2_84 dX2_bookGroup_30 ?_
    exact zret_i E rfl dX2_bookGroup_32 (by simp only [hBook, hBook1, if_pos h1]) (by simp only [hBook, hBook1, if_pos h1])
  · refine zr_iload_n X 2 dX2_bookGroup_10 rfl rfl ?_
    refine zr_iconst X (v := 0) dX2_bookGroup_11 (by decide) ?_
    refine zr_bipush X (v := 60) dX2_bookGroup_12 (by decide) ?_
    refine zr_cSN X (As := [.int (d), .int (0), .int (60)]) (rest := []) (f' := zPut f b (zHut w cy b γ σ)) (st' := [.int (zwin d 0 60)]) zc_X8_isWithin k_isWithin ⟨Nat.le_of_ble_eq_true rfl, Nat.le_of_ble_eq_true rfl⟩ ⟨Nat.le_refl _, Nat.le_refl _⟩ rfl (Nat.le_of_ble_eq_true rfl) (List.mem_of_getElem? (i := 45) rfl) rfl dX2_bookGroup_14 rfl ?_
    refine zr_if_eq X (tgt := 30) dX2_bookGroup_17 (by decide) (fun h3 => ?_) (fun h4 => ?_)
    · refine zr_ldc X zm_2_84 dX2_bookGroup_30 ?_
      exact zret_i E rfl dX2_bookGroup_32 (by simp only [hBook, hBook1, if_neg h2, if_pos h3]) (by simp only [hBook, hBook1, if_neg h2, if_pos h3])
    · refine zr_iload_n X 3 dX2_bookGroup_20 rfl rfl ?_
      refine zr_iconst X (v := 1) dX2_bookGroup_21 (by decide) ?_
      refine zr_bipush X (v := 9) dX2_bookGroup_22 (by decide) ?_
      refine zr_cSN X (As := [.int (n), .int (1), .int (9)]) (rest := []) (f' := zPut f b (zHut w cy b γ σ)) (st' := [.int (zwin n 1 9)]) zc_X8_isWithin k_isWithin ⟨Nat.le_of_ble_eq_true rfl, Nat.le_of_ble_eq_true rfl⟩ ⟨Nat.le_refl _, Nat.le_refl _⟩ rfl (Nat.le_of_ble_eq_true rfl) (List.mem_of_getElem? (i := 45) rfl) rfl dX2_bookGroup_24 rfl ?_
      refine zr_if_ne X (tgt := 33) dX2_bookGroup_27 (by decide) (fun h5 => ?_) (fun h6 => ?_)
      · refine zr_aload_n X 0 dX2_bookGroup_33 rfl rfl ?_
        refine zr_get X zfd_RX2_53 (b) (show b < w.1 by omega) (zPut_in (o := 0) (by omega)) (v := .int (σ 1)) rfl dX2_bookGroup_34 ?_
        refine zr_bipush X (v := 10) dX2_bookGroup_37 (by decide) ?_
        refine zr_icmp_lt X (tgt := 45) dX2_bookGroup_39 (by decide) (fun h7 => ?_) (fun h8 => ?_)
        · refine zr_aload_n X 0 dX2_bookGroup_45 rfl rfl ?_
          refine zr_dup X dX2_bookGroup_46 rfl ?_
          refine zr_get X zfd_RX2_53 (b) (show b < w.1 by omega) (zPut_in (o := 0) (by omega)) (v := .int (σ 1)) rfl dX2_bookGroup_47 ?_
          refine zr_iconst X (v := 1) dX2_bookGroup_50 (by decide) ?_
          refine zr_iadd X dX2_bookGroup_51 ?_
          refine zr_put X zfd_RX2_53 zty_2_6 (b) (show b < w.1 by omega) (zPut_in (o := 0) (by omega)) rfl rfl (Nat.le_of_ble_eq_true rfl) (eHut_set _ _ _ _ 1 (by decide)) dX2_bookGroup_52 ?_
          refine zcw (f2 := zPut f b (zHut w cy b γ (upd σ 1 ((σ 1) + 1)))) (zu_hut (i := 1) (by decide)) ?_
          refine zr_aload_n X 0 dX2_bookGroup_55 rfl rfl ?_
          refine zr_aload_n X 0 dX2_bookGroup_56 rfl rfl ?_
          refine zr_get X zfd_RX2_53 (b) (show b < w.1 by omega) (zPut_in (o := 0) (by omega)) (v := .int ((σ 1) + 1)) rfl dX2_bookGroup_57 ?_
          refine zr_iconst X (v := 1) dX2_bookGroup_60 (by decide) ?_
          refine zr_isub X dX2_bookGroup_61 ?_
          have q : bk < 10 := by have h9 := h7; rw [hg] at h9; exact (nI_ltI (by omega) (show 10 < 2147483648 by decide)).mp h9
          have q1 := hγ bk q
          refine zr_cV X (As := [.int (((σ 1) + 1) - 1)]) (rest := []) (f' := zPut f b (zHut w cy b γ (upd σ 1 ((σ 1) + 1)))) (st' := [.ref (w.2 (b + (11 + γ bk)))]) zc_X2_groupAt (b) (show b < w.1 by omega) (zPut_in (o := 0) (by omega)) (q9 := _) rfl rfl (k_groupAtE hb (show _ = nI mc from hm) hmc (hm_up hg) (show bk + 1 ≤ 10 by omega) hγ (show bk < bk + 1 by omega) (by rw [hg, ← nI_succ]; exact nI_pred bk)) ⟨Nat.le_of_ble_eq_true rfl, Nat.le_of_ble_eq_true rfl⟩ ⟨Nat.le_refl _, Nat.le_refl _⟩ rfl (Nat.le_of_ble_eq_true rfl) zm_2_69 rfl dX2_bookGroup_62 rfl ?_
          refine zr_astore X (ls' := [(4, .ref (w.2 (b + (11 + γ bk)))), (0, .ref (w.2 (b))), (1, .int (p)), (2, .int (d)), (3, .int (n))]) dX2_bookGroup_65 (by decide) rfl ?_
          refine zr_aload_n X 1 dX2_bookGroup_67 rfl rfl ?_
          refine zr_get X zfd_RX2_56 (b) (show b < w.1 by omega) (zPut_in (o := 0) (by omega)) (v := .int (σ 2)) rfl dX2_bookGroup_68 ?_
          refine zr_istore X (ls' := [(5, .int (σ 2)), (4, .ref (w.2 (b + (11 + γ bk)))), (0, .ref (w.2 (b))), (1, .int (p)), (2, .int (d)), (3, .int (n))]) dX2_bookGroup_71 (by decide) rfl ?_
          refine zr_aload_n X 2 dX2_bookGroup_73 rfl rfl ?_
          refine zr_dup X dX2_bookGroup_74 rfl ?_
          refine zr_get X zfd_RX2_56 (b) (show b < w.1 by omega) (zPut_in (o := 0) (by omega)) (v := .int (σ 2)) rfl dX2_bookGroup_75 ?_
          refine zr_iconst X (v := 1) dX2_bookGroup_78 (by decide) ?_
          refine zr_iadd X dX2_bookGroup_79 ?_
          refine zr_put X zfd_RX2_56 zty_2_7 (b) (show b < w.1 by omega) (zPut_in (o := 0) (by omega)) rfl rfl (Nat.le_of_ble_eq_true rfl) (eHut_set _ _ _ _ 2 (by decide)) dX2_bookGroup_80 ?_
          refine zcw (f2 := zPut f b (zHut w cy b γ (upd (upd σ 1 ((σ 1) + 1)) 2 ((σ 2) + 1)))) (zu_hut (i := 2) (by decide)) ?_
          refine zr_aload X 1 dX2_bookGroup_83 rfl ?_
          refine zr_ifnull X dX2_bookGroup_85 ?_
          refine zr_aload X 1 dX2_bookGroup_88 rfl ?_
          refine zr_iload X 0 dX2_bookGroup_90 rfl ?_
          refine zr_iload_n X 3 dX2_bookGroup_92 rfl rfl ?_
          refine zr_aload_n X 2 dX2_bookGroup_93 rfl rfl ?_
          refine zr_get X zfd_RX2_59 (b) (show b < w.1 by omega) (zPut_in (o := 0) (by omega)) (v := .int (σ 3)) rfl dX2_bookGroup_94 ?_
          refine zr_iload_n X 4 dX2_bookGroup_97 rfl rfl ?_
          refine zr_iadd X dX2_bookGroup_98 ?_
          refine zr_iload_n X 5 dX2_bookGroup_99 rfl rfl ?_
          refine zr_cV X (As := [.int (σ 2), .int (p), .int ((σ 3) + d), .int (n)]) (rest := []) (f' := va_up (zPut f b (zHut w cy b γ (upd (upd σ 1 ((σ 1) + 1)) 2 ((σ 2) + 1)))) (b + (11 + γ bk)) (eGroup (gBegin (fun i9 => (upd (upd σ 1 ((σ 1) + 1)) 2 ((σ 2) + 1)) (55 + 6 * (γ bk) + i9)) (σ 2) p ((σ 3) + d) n))) (st' := []) zc_X0_begin (b + (11 + γ bk)) (show b + (11 + γ bk) < w.1 by omega) ((zPut_in (o := 11 + γ bk) (by omega)).trans (zHut_group (k := γ bk))) (q9 := _) rfl rfl (k_Group_begin (show b + (11 + γ bk) < w.1 by omega) ((zPut_in (o := 11 + γ bk) (by omega)).trans (zHut_group (k := γ bk)))) ⟨Nat.le_of_ble_eq_true rfl, Nat.le_of_ble_eq_true rfl⟩ ⟨Nat.le_refl _, Nat.le_refl _⟩ rfl (Nat.le_of_ble_eq_true rfl) zm_2_144 rfl dX2_bookGroup_100 rfl ?_
          refine zcw (f2 := zPut f b (zHut w cy b γ (setR (upd (upd σ 1 ((σ 1) + 1)) 2 ((σ 2) + 1)) (55 + 6 * (γ bk)) 6 (gBegin (fun i9 => (upd (upd σ 1 ((σ 1) + 1)) 2 ((σ 2) + 1)) (55 + 6 * (γ bk) + i9)) (σ 2) p ((σ 3) + d) n)))) (zu_group (k := γ bk) (by omega)) ?_
          refine zr_iload X 0 dX2_bookGroup_103 rfl ?_
          exact zret_i E rfl dX2_bookGroup_105 (by simp only [hBook, hBook1, if_neg h2, if_neg h4, if_neg h5, if_pos h7]) (by simp only [hBook, hBook1, if_neg h2, if_neg h4, if_neg h5, if_pos h7])
        · refine zr_ldc X zm_2_85 dX2_bookGroup_42 ?_
          exact zret_i E rfl dX2_bookGroup_44 (by simp only [hBook, hBook1, if_neg h2, if_neg h4, if_neg h5, if_neg h8]) (by simp only [hBook, hBook1, if_neg h2, if_neg h4, if_neg h5, if_neg h8])
      · refine zr_ldc X zm_2_84 dX2_bookGroup_30 ?_
        exact zret_i E rfl dX2_bookGroup_32 (by simp only [hBook, hBook1, if_neg h2, if_neg h4, if_pos h6]) (by simp only [hBook, hBook1, if_neg h2, if_neg h4, if_pos h6])
theorem zu_groups1 {w : zW} {cy : Nat → ClassId} {b j x : Nat} {γ : Nat → Nat} {σ : Nat → Int32} {f : zF} : va_up (zPut f b (zHut w cy b γ σ)) (b + 2) (eRefs cy 3 10 (va_up (fun k => some (w.2 (b + (11 + γ k)))) j (some (w.2 (b + (11 + x)))))) = zPut f b (zHut w cy b (va_up γ j x) σ) := by
  rw [show va_up (fun k => some (w.2 (b + (11 + γ k)))) j (some (w.2 (b + (11 + x)))) = (fun k => some (w.2 (b + (11 + va_up γ j x k)))) from funext fun k => by unfold va_up; split <;> rfl]
  exact zu_groups
def gRemS (p : Int32) (i : Nat) (γ : Nat → Nat) : Nat → Nat := if nI (i + 1) ≤ p then γ else va_up (va_up γ (i + 1) (γ i)) i (γ (i + 1))
def gRem (γ : Nat → Nat) (p : Int32) (n : Nat) : Nat → Nat := zfold (gRemS p) γ n
theorem gRem_s {γ : Nat → Nat} {p : Int32} {n : Nat} : gRem γ p (n + 1) = gRemS p n (gRem γ p n) := rfl
theorem gRem_lt {γ : Nat → Nat} {p : Int32} (h : ∀ k, k < 10 → γ k < 10) : ∀ n, n ≤ 9 → ∀ k, k < 10 → gRem γ p n k < 10
  | 0, _, k, hk => h k hk
  | n + 1, hn, k, hk => by
    rw [gRem_s]
    unfold gRemS
    have ih := gRem_lt (p := p) h n (by omega)
    split
    · exact ih k hk
    · unfold va_up
      split
      · exact ih _ (by omega)
      · split
        · exact ih _ (by omega)
        · exact ih k hk
set_option maxHeartbeats 4000000 in
set_option maxRecDepth 100000 in
theorem k_removeGroup {l : Launch} {D : va_G} {cy : Nat → ClassId} {w : zW} {f : zF} {b mc bk : Nat} {γ : Nat → Nat} {σ : Nat → Int32} {p : Int32} (hb : b + 21 ≤ w.1) (hm : σ 0 = nI mc) (hmc : mc ≤ 4) (hg : σ 1 = nI bk) (hbk : bk ≤ 10) (hγ : ∀ k, k < 10 → γ k < 10)  : zSd l D cy yX2_removeGroup cX2_removeGroup 4 none 0 0 [.ref (w.2 (b)), .int (p)] w (zPut f b (zHut w cy b γ σ)) none (zPut f b (zHut w cy b (gRem γ p 9) (upd σ 1 (σ 1 - 1)))) := by
  refine zSd.intro (by decide) (Nat.le_of_ble_eq_true rfl) (fun G X E => ?_)
  show G (w, 0, 0) (zPut f b (zHut w cy b γ σ)) [(0, .ref (w.2 (b))), (1, .int (p))] 0 []
  refine zr_iconst X (v := 1) dX2_removeGroup_0 (by decide) ?_
  refine zr_istore_n X (ls' := [(2, .int (1)), (0, .ref (w.2 (b))), (1, .int (p))]) dX2_removeGroup_1 rfl (by decide) rfl ?_
  refine zr_loc X (ls' := [(0, .ref (w.2 (b))), (1, .int (p)), (2, .int (1))]) [1, 2, 0] rfl ?_
  refine zcast (f2 := zPut f b (zHut w cy b (gRem γ p (0)) σ)) (ls2 := [(0, .ref (w.2 (b))), (1, .int (p)), (2, .int (nI (0 + 1)))]) rfl rfl ?_
  refine zdown (P := fun n => G (w, 0, 0) (zPut f b (zHut w cy b (gRem γ p (n)) σ)) [(0, .ref (w.2 (b))), (1, .int (p)), (2, .int (nI (n + 1)))] 2 []) (B := 9) ?_ (fun n hn2 ih2 => ?_) 0 (Nat.zero_le _) 
  · show G (w, 0, 0) (zPut f b (zHut w cy b (gRem γ p (9)) σ)) [(0, .ref (w.2 (b))), (1, .int (p)), (2, .int (nI (9 + 1)))] 2 []
    refine zr_iload_n X 2 dX2_removeGroup_2 rfl rfl ?_
    refine zr_aload_n X 0 dX2_removeGroup_3 rfl rfl ?_
    refine zr_get X zfd_RX2_19 (b) (show b < w.1 by omega) (zPut_in (o := 0) (by omega)) (v := .ref (w.2 (b + 2))) rfl dX2_removeGroup_4 ?_
    refine zr_alen X (b + 2) (show b + 2 < w.1 by omega) (b := 3) rfl (zPut_in (o := 2) (by omega)) (v := 10) rfl dX2_removeGroup_7 ?_
    refine zr_icmp_ge X (tgt := 52) dX2_removeGroup_8 (by decide) (fun _ => ?_) (fun h => False.elim (h (by decide)))
    refine zr_aload_n X 0 dX2_removeGroup_52 rfl rfl ?_
    refine zr_dup X dX2_removeGroup_53 rfl ?_
    refine zr_get X zfd_RX2_53 (b) (show b < w.1 by omega) (zPut_in (o := 0) (by omega)) (v := .int (σ 1)) rfl dX2_removeGroup_54 ?_
    refine zr_iconst X (v := 1) dX2_removeGroup_57 (by decide) ?_
    refine zr_isub X dX2_removeGroup_58 ?_
    refine zr_put X zfd_RX2_53 zty_2_6 (b) (show b < w.1 by omega) (zPut_in (o := 0) (by omega)) rfl rfl (Nat.le_of_ble_eq_true rfl) (eHut_set _ _ _ _ 1 (by decide)) dX2_removeGroup_59 ?_
    refine zcw (f2 := zPut f b (zHut w cy b (gRem γ p (9)) (upd σ 1 ((σ 1) - 1)))) (zu_hut (i := 1) (by decide)) ?_
    exact zret_v E rfl dX2_removeGroup_62 (by simp only [])
  · show G (w, 0, 0) (zPut f b (zHut w cy b (gRem γ p (n)) σ)) [(0, .ref (w.2 (b))), (1, .int (p)), (2, .int (nI (n + 1)))] 2 []
    have qa := gRem_lt (p := p) hγ n (by omega) n (by omega)
    have qb := gRem_lt (p := p) hγ n (by omega) (n + 1) (by omega)
    refine zr_iload_n X 2 dX2_removeGroup_2 rfl rfl ?_
    refine zr_aload_n X 0 dX2_removeGroup_3 rfl rfl ?_
    refine zr_get X zfd_RX2_19 (b) (show b < w.1 by omega) (zPut_in (o := 0) (by omega)) (v := .ref (w.2 (b + 2))) rfl dX2_removeGroup_4 ?_
    refine zr_alen X (b + 2) (show b + 2 < w.1 by omega) (b := 3) rfl (zPut_in (o := 2) (by omega)) (v := 10) rfl dX2_removeGroup_7 ?_
    refine zr_icmp_ge X (tgt := 52) dX2_removeGroup_8 (by decide) (fun h => False.elim (nI_ge (show n + 1 < 10 by omega) (by decide) h)) (fun _ => ?_)
    refine zr_iload_n X 2 dX2_removeGroup_11 rfl rfl ?_
    refine zr_iload_n X 1 dX2_removeGroup_12 rfl rfl ?_
    refine zr_icmp_le X (tgt := 46) dX2_removeGroup_13 (by decide) (fun h1 => ?_) (fun h2 => ?_)
    · refine zr_iinc X (v := nI (n + 1 + 1)) (ls' := [(2, .int (nI (n + 1 + 1))), (0, .ref (w.2 (b))), (1, .int (p))]) 2 dX2_removeGroup_46 rfl (zinc1 _) (by decide) rfl ?_
      refine zr_goto X (tgt := 2) dX2_removeGroup_49 (by decide) ?_
      refine zr_loc X (ls' := [(0, .ref (w.2 (b))), (1, .int (p)), (2, .int (nI (n + 1 + 1)))]) [1, 2, 0] rfl ?_
      exact zcast (f2 := zPut f b (zHut w cy b (gRem γ p (n + 1)) σ)) (ls2 := [(0, .ref (w.2 (b))), (1, .int (p)), (2, .int (nI (n + 1 + 1)))]) (by rw [gRem_s]; simp only [if_pos h1, gRemS]) rfl ih2
    · refine zr_aload_n X 0 dX2_removeGroup_16 rfl rfl ?_
      refine zr_get X zfd_RX2_19 (b) (show b < w.1 by omega) (zPut_in (o := 0) (by omega)) (v := .ref (w.2 (b + 2))) rfl dX2_removeGroup_17 ?_
      refine zr_iload_n X 2 dX2_removeGroup_20 rfl rfl ?_
      refine zr_aald X (b + 2) (show b + 2 < w.1 by omega) (b := 3) rfl (zPut_in (o := 2) (by omega)) (n + 1) (rfl) (by omega) (by decide) (v := w.2 (b + (11 + (gRem γ p (n)) (n + 1)))) rfl dX2_removeGroup_21 ?_
      refine zr_astore_n X (ls' := [(3, .ref (w.2 (b + (11 + (gRem γ p (n)) (n + 1))))), (0, .ref (w.2 (b))), (1, .int (p)), (2, .int (nI (n + 1)))]) dX2_removeGroup_22 rfl (by decide) rfl ?_
      refine zr_aload_n X 1 dX2_removeGroup_23 rfl rfl ?_
      refine zr_get X zfd_RX2_19 (b) (show b < w.1 by omega) (zPut_in (o := 0) (by omega)) (v := .ref (w.2 (b + 2))) rfl dX2_removeGroup_24 ?_
      refine zr_iload_n X 3 dX2_removeGroup_27 rfl rfl ?_
      refine zr_aload_n X 1 dX2_removeGroup_28 rfl rfl ?_
      refine zr_get X zfd_RX2_19 (b) (show b < w.1 by omega) (zPut_in (o := 0) (by omega)) (v := .ref (w.2 (b + 2))) rfl dX2_removeGroup_29 ?_
      refine zr_iload_n X 3 dX2_removeGroup_32 rfl rfl ?_
      refine zr_iconst X (v := 1) dX2_removeGroup_33 (by decide) ?_
      refine zr_isub X dX2_removeGroup_34 ?_
      refine zr_aald X (b + 2) (show b + 2 < w.1 by omega) (b := 3) rfl (zPut_in (o := 2) (by omega)) (n) (nI_pred n) (by omega) (by decide) (v := w.2 (b + (11 + (gRem γ p (n)) n))) rfl dX2_removeGroup_35 ?_
      refine zr_aast X (b + 2) (show b + 2 < w.1 by omega) (b := 3) (ci := 0) (r := (RX0, TX0, 6)) rfl rfl (zPut_in (o := 2) (by omega)) (n + 1) (rfl) (by omega) (by decide) (b + (11 + (gRem γ p (n)) n)) (show b + (11 + (gRem γ p (n)) n) < w.1 by omega) (((zPut_in (o := 11 + (gRem γ p (n)) n) (by omega)).trans (zHut_group (k := (gRem γ p (n)) n)))) dX2_removeGroup_36 ?_
      refine zcw (f2 := zPut f b (zHut w cy b (va_up (gRem γ p (n)) (n + 1) ((gRem γ p (n)) n)) σ)) zu_groups1 ?_
      refine zr_aload_n X 1 dX2_removeGroup_37 rfl rfl ?_
      refine zr_get X zfd_RX2_19 (b) (show b < w.1 by omega) (zPut_in (o := 0) (by omega)) (v := .ref (w.2 (b + 2))) rfl dX2_removeGroup_38 ?_
      refine zr_iload_n X 3 dX2_removeGroup_41 rfl rfl ?_
      refine zr_iconst X (v := 1) dX2_removeGroup_42 (by decide) ?_
      refine zr_isub X dX2_removeGroup_43 ?_
      refine zr_aload_n X 0 dX2_removeGroup_44 rfl rfl ?_
      refine zr_aast X (b + 2) (show b + 2 < w.1 by omega) (b := 3) (ci := 0) (r := (RX0, TX0, 6)) rfl rfl (zPut_in (o := 2) (by omega)) (n) (nI_pred n) (by omega) (by decide) (b + (11 + (gRem γ p (n)) (n + 1))) (show b + (11 + (gRem γ p (n)) (n + 1)) < w.1 by omega) (((zPut_in (o := 11 + (gRem γ p (n)) (n + 1)) (by omega)).trans (zHut_group (k := (gRem γ p (n)) (n + 1))))) dX2_removeGroup_45 ?_
      refine zcw (f2 := zPut f b (zHut w cy b (va_up (va_up (gRem γ p (n)) (n + 1) ((gRem γ p (n)) n)) n ((gRem γ p (n)) (n + 1))) σ)) zu_groups1 ?_
      refine zr_iinc X (v := nI (n + 1 + 1)) (ls' := [(2, .int (nI (n + 1 + 1))), (3, .ref (w.2 (b + (11 + (gRem γ p (n)) (n + 1))))), (0, .ref (w.2 (b))), (1, .int (p))]) 3 dX2_removeGroup_46 rfl (zinc1 _) (by decide) rfl ?_
      refine zr_goto X (tgt := 2) dX2_removeGroup_49 (by decide) ?_
      refine zr_loc X (ls' := [(0, .ref (w.2 (b))), (1, .int (p)), (2, .int (nI (n + 1 + 1)))]) [2, 3, 0] rfl ?_
      exact zcast (f2 := zPut f b (zHut w cy b (gRem γ p (n + 1)) σ)) (ls2 := [(0, .ref (w.2 (b))), (1, .int (p)), (2, .int (nI (n + 1 + 1)))]) (by rw [gRem_s]; simp only [if_neg h2, gRemS]) rfl ih2
def hOff (bk : Nat) (γ : Nat → Nat) (σ : Nat → Int32) (x : Int32) : Int32 × (Nat → Nat) × (Nat → Int32) := if 0 ≤ (hPlace γ σ x bk 0) then (σ 1 - 1, gRem γ (hPlace γ σ x bk 0) 9, upd σ 1 (σ 1 - 1)) else (-1000001, γ, σ)
set_option maxHeartbeats 4000000 in
set_option maxRecDepth 100000 in
theorem k_callOff {l : Launch} {D : va_G} {cy : Nat → ClassId} {w : zW} {f : zF} {b mc bk : Nat} {γ : Nat → Nat} {σ : Nat → Int32} {x : Int32} (hb : b + 21 ≤ w.1) (hm : σ 0 = nI mc) (hmc : mc ≤ 4) (hg : σ 1 = nI bk) (hbk : bk ≤ 10) (hγ : ∀ k, k < 10 → γ k < 10)  : zSd l D cy yX2_callOff cX2_callOff 3 (some .int) 2 44 [.ref (w.2 (b)), .int (x)] w (zPut f b (zHut w cy b γ σ)) (some (.int ((hOff bk γ σ x).1))) (zPut f b (zHut w cy b (hOff bk γ σ x).2.1 (hOff bk γ σ x).2.2)) := by
  refine zSd.intro (by decide) (Nat.le_of_ble_eq_true rfl) (fun G X E => ?_)
  show G (w, 0, 0) (zPut f b (zHut w cy b γ σ)) [(0, .ref (w.2 (b))), (1, .int (x))] 0 []
  refine zr_aload_n X 0 dX2_callOff_0 rfl rfl ?_
  refine zr_iload_n X 1 dX2_callOff_1 rfl rfl ?_
  refine zr_cV X (As := [.int (x)]) (rest := []) (f' := zPut f b (zHut w cy b γ σ)) (st' := [.int (hPlace γ σ x bk 0)]) zc_X2_placeOfGroup (b) (show b < w.1 by omega) (zPut_in (o := 0) (by omega)) (q9 := _) rfl rfl (k_placeOfGroup hb hm hmc hg hbk hγ) ⟨Nat.le_of_ble_eq_true rfl, Nat.le_of_ble_eq_true rfl⟩ ⟨Nat.le_refl _, Nat.le_refl _⟩ rfl (Nat.le_of_ble_eq_true rfl) zm_2_156 rfl dX2_callOff_2 rfl ?_
  refine zr_istore_n X (ls' := [(2, .int (hPlace γ σ x bk 0)), (0, .ref (w.2 (b))), (1, .int (x))]) dX2_callOff_5 rfl (by decide) rfl ?_
  refine zr_iload_n X 0 dX2_callOff_6 rfl rfl ?_
  refine zr_if_ge X (tgt := 13) dX2_callOff_7 (by decide) (fun h1 => ?_) (fun h2 => ?_)
  · refine zr_aload_n X 1 dX2_callOff_13 rfl rfl ?_
    refine zr_iload_n X 0 dX2_callOff_14 rfl rfl ?_
    refine zr_cV X (As := [.int (hPlace γ σ x bk 0)]) (rest := []) (f' := zPut f b (zHut w cy b (gRem γ (hPlace γ σ x bk 0) 9) (upd σ 1 ((σ 1) - 1)))) (st' := []) zc_X2_removeGroup (b) (show b < w.1 by omega) (zPut_in (o := 0) (by omega)) (q9 := _) rfl rfl (k_removeGroup hb hm hmc hg hbk hγ) ⟨Nat.le_of_ble_eq_true rfl, Nat.le_of_ble_eq_true rfl⟩ ⟨Nat.le_refl _, Nat.le_refl _⟩ rfl (Nat.le_of_ble_eq_true rfl) zm_2_160 rfl dX2_callOff_15 rfl ?_
    refine zr_aload_n X 1 dX2_callOff_18 rfl rfl ?_
    refine zr_get X zfd_RX2_53 (b) (show b < w.1 by omega) (zPut_in (o := 0) (by omega)) (v := .int ((σ 1) - 1)) rfl dX2_callOff_19 ?_
    exact zret_i E rfl dX2_callOff_22 (by simp only [hOff, if_pos h1]) (by simp only [hOff, if_pos h1])
  · refine zr_ldc X zm_2_84 dX2_callOff_10 ?_
    exact zret_i E rfl dX2_callOff_12 (by simp only [hOff, if_neg h2]) (by simp only [hOff, if_neg h2])
end
section
def hUn1 (k : Nat) (σ : Nat → Int32) : Nat → Int32 := setR σ (19 + 9 * k) 9 (upd (upd (fun i => σ (19 + 9 * k + i)) 4 0) 7 (σ (19 + 9 * k + 7) + σ (19 + 9 * k + 4)))
def hUnAge (k : Nat) (σ : Nat → Int32) : Int32 := hUn1 k σ 3 - hUn1 k σ (19 + 9 * k + 5)
def hUnSt (k : Nat) (σ : Nat → Int32) : Int32 := if (80 - (shMany (fun k9 => hUn1 k σ (115 + k9)) 0 20 21)) < (σ (19 + 9 * k + 4)) then 80 - (shMany (fun k9 => hUn1 k σ (115 + k9)) 0 20 21) else σ (19 + 9 * k + 4)
def hUn2 (k : Nat) (σ : Nat → Int32) : Nat → Int32 := setA (hUn1 k σ) (shStore (fun k9 => hUn1 k σ (115 + k9)) (hUnAge k σ) (hUnSt k σ))
def hUnload (k : Nat) (σ : Nat → Int32) : Nat → Int32 := if (hUnAge k σ) ≤ 20 then upd (hUn2 k σ) 10 (hUn2 k σ 10 + (σ (19 + 9 * k + 4) - hUnSt k σ)) else upd (hUn1 k σ) 9 (hUn1 k σ 9 + σ (19 + 9 * k + 4))
set_option maxHeartbeats 4000000 in
set_option maxRecDepth 100000 in
theorem k_unload {l : Launch} {D : va_G} {cy : Nat → ClassId} {w : zW} {f : zF} {b mc bk : Nat} {γ : Nat → Nat} {σ : Nat → Int32} {k : Nat} (hb : b + 21 ≤ w.1) (hm : σ 0 = nI mc) (hmc : mc ≤ 4) (hg : σ 1 = nI bk) (hbk : bk ≤ 10) (hγ : ∀ k, k < 10 → γ k < 10) (hk : k < 4) : zSd l D cy yX2_unload cX2_unload 5 none 1 24 [.ref (w.2 (b)), .ref (w.2 (b + (7 + k)))] w (zPut f b (zHut w cy b γ σ)) none (zPut f b (zHut w cy b γ (hUnload k σ))) := by
  refine zSd.intro (by decide) (Nat.le_of_ble_eq_true rfl) (fun G X E => ?_)
  show G (w, 0, 0) (zPut f b (zHut w cy b γ σ)) [(0, .ref (w.2 (b))), (1, .ref (w.2 (b + (7 + k))))] 0 []
  refine zr_aload_n X 1 dX2_unload_0 rfl rfl ?_
  refine zr_cV X (As := []) (rest := []) (f' := va_up (zPut f b (zHut w cy b γ σ)) (b + (7 + k)) (eMule (upd (upd (fun i9 => σ (19 + 9 * k + i9)) 4 0) 7 (σ (19 + 9 * k + 7) + σ (19 + 9 * k + 4))))) (st' := [.int (σ (19 + 9 * k + 4))]) zc_X4_unload (b + (7 + k)) (show b + (7 + k) < w.1 by omega) ((zPut_in (o := 7 + k) (by omega)).trans (zHut_mule (k := k) (by omega))) (q9 := _) rfl rfl (k_Mule_unload (show b + (7 + k) < w.1 by omega) ((zPut_in (o := 7 + k) (by omega)).trans (zHut_mule (k := k) (by omega)))) ⟨Nat.le_of_ble_eq_true rfl, Nat.le_of_ble_eq_true rfl⟩ ⟨Nat.le_refl _, Nat.le_refl _⟩ rfl (Nat.le_of_ble_eq_true rfl) zm_2_184 rfl dX2_unload_1 rfl ?_
  refine zcw (f2 := zPut f b (zHut w cy b γ (hUn1 k σ))) (zu_mule (k := k) (by omega)) ?_
  refine zr_istore_n X (ls' := [(2, .int (σ (19 + 9 * k + 4))), (0, .ref (w.2 (b))), (1, .ref (w.2 (b + (7 + k))))]) dX2_unload_4 rfl (by decide) rfl ?_
  refine zr_aload_n X 1 dX2_unload_5 rfl rfl ?_
  refine zr_get X zfd_RX2_59 (b) (show b < w.1 by omega) (zPut_in (o := 0) (by omega)) (v := .int ((hUn1 k σ) 3)) rfl dX2_unload_6 ?_
  refine zr_aload_n X 2 dX2_unload_9 rfl rfl ?_
  refine zr_getN X zfn_RX2_183 (b + (7 + k)) (show b + (7 + k) < w.1 by omega) ((zPut_in (o := 7 + k) (by omega)).trans (zHut_mule (k := k) (by omega))) (v := .int ((hUn1 k σ) (19 + 9 * k + 5))) rfl dX2_unload_10 ?_
  refine zr_isub X dX2_unload_13 ?_
  refine zr_istore_n X (ls' := [(3, .int (hUnAge k σ)), (2, .int (σ (19 + 9 * k + 4))), (0, .ref (w.2 (b))), (1, .ref (w.2 (b + (7 + k))))]) dX2_unload_14 rfl (by decide) rfl ?_
  refine zr_iload_n X 0 dX2_unload_15 rfl rfl ?_
  refine zr_bipush X (v := 20) dX2_unload_16 (by decide) ?_
  refine zr_icmp_le X (tgt := 35) dX2_unload_18 (by decide) (fun h1 => ?_) (fun h2 => ?_)
  · refine zr_iload_n X 1 dX2_unload_35 rfl rfl ?_
    refine zr_bipush X (v := 80) dX2_unload_36 (by decide) ?_
    refine zr_aload_n X 2 dX2_unload_38 rfl rfl ?_
    refine zr_get X zfd_RX2_26 (b) (show b < w.1 by omega) (zPut_in (o := 0) (by omega)) (v := .ref (w.2 (b + 3))) rfl dX2_unload_39 ?_
    refine zr_iconst X (v := 0) dX2_unload_42 (by decide) ?_
    refine zr_bipush X (v := 20) dX2_unload_43 (by decide) ?_
    refine zr_cV X (As := [.int (0), .int (20)]) (rest := [.int (80), .int (σ (19 + 9 * k + 4))]) (f' := zPut f b (zHut w cy b γ (hUn1 k σ))) (st' := [.int (shMany (fun k9 => (hUn1 k σ) (115 + k9)) 0 20 21), .int (80), .int (σ (19 + 9 * k + 4))]) zc_X7_howMany (b + 3) (show b + 3 < w.1 by omega) (zPut_in (o := 3) (by omega)) (q9 := _) rfl rfl (k_Shelf_howMany (show b + 3 < w.1 by omega) (show b + 4 < w.1 by omega) (zPut_in (o := 3) (by omega)) (zPut_in (o := 4) (by omega)) (by omega)) ⟨Nat.le_of_ble_eq_true rfl, Nat.le_of_ble_eq_true rfl⟩ ⟨Nat.le_refl _, Nat.le_refl _⟩ rfl (Nat.le_of_ble_eq_true rfl) zm_2_188 rfl dX2_unload_45 rfl ?_
    refine zr_isub X dX2_unload_48 ?_
    refine zr_min X zm_2_192 (by decide) (by show 0 + 13 ≤ _; decide) (Nat.le_refl _) (Nat.le_refl _) dX2_unload_49 ?_
    refine zr_istore X (ls' := [(4, .int (hUnSt k σ)), (3, .int (hUnAge k σ)), (2, .int (σ (19 + 9 * k + 4))), (0, .ref (w.2 (b))), (1, .ref (w.2 (b + (7 + k))))]) dX2_unload_52 (by decide) rfl ?_
    refine zr_aload_n X 3 dX2_unload_54 rfl rfl ?_
    refine zr_get X zfd_RX2_26 (b) (show b < w.1 by omega) (zPut_in (o := 0) (by omega)) (v := .ref (w.2 (b + 3))) rfl dX2_unload_55 ?_
    refine zr_iload_n X 1 dX2_unload_58 rfl rfl ?_
    refine zr_iload X 0 dX2_unload_59 rfl ?_
    refine zr_cV X (As := [.int (hUnAge k σ), .int (hUnSt k σ)]) (rest := []) (f' := va_up (zPut f b (zHut w cy b γ (hUn1 k σ))) (b + 4) (eInts cy 21 (shStore (fun k9 => (hUn1 k σ) (115 + k9)) (hUnAge k σ) (hUnSt k σ)))) (st' := []) zc_X7_store (b + 3) (show b + 3 < w.1 by omega) (zPut_in (o := 3) (by omega)) (q9 := _) rfl rfl (k_Shelf_store (show b + 3 < w.1 by omega) (show b + 4 < w.1 by omega) (zPut_in (o := 3) (by omega)) (zPut_in (o := 4) (by omega)) (by omega)) ⟨Nat.le_of_ble_eq_true rfl, Nat.le_of_ble_eq_true rfl⟩ ⟨Nat.le_refl _, Nat.le_refl _⟩ rfl (Nat.le_of_ble_eq_true rfl) zm_2_195 rfl dX2_unload_61 rfl ?_
    refine zcw (f2 := zPut f b (zHut w cy b γ (hUn2 k σ))) (zu_shelf) ?_
    refine zr_aload_n X 3 dX2_unload_64 rfl rfl ?_
    refine zr_get X zfd_RX2_33 (b) (show b < w.1 by omega) (zPut_in (o := 0) (by omega)) (v := .ref (w.2 (b + 5))) rfl dX2_unload_65 ?_
    refine zr_dup X dX2_unload_68 rfl ?_
    refine zr_getN X zfn_RX2_197 (b + 5) (show b + 5 < w.1 by omega) (zPut_in (o := 5) (by omega)) (v := .int ((hUn2 k σ) 10)) rfl dX2_unload_69 ?_
    refine zr_iload_n X 2 dX2_unload_72 rfl rfl ?_
    refine zr_iload X 0 dX2_unload_73 rfl ?_
    refine zr_isub X dX2_unload_75 ?_
    refine zr_iadd X dX2_unload_76 ?_
    refine zr_putN X zfn_RX2_197 zty_3_5 (b + 5) (show b + 5 < w.1 by omega) (zPut_in (o := 5) (by omega)) rfl rfl (Nat.le_of_ble_eq_true rfl) (eLedger_set _ _ 5 (by decide)) dX2_unload_77 ?_
    refine zcw (f2 := zPut f b (zHut w cy b γ (upd (hUn2 k σ) 10 (((hUn2 k σ) 10) + ((σ (19 + 9 * k + 4)) - (hUnSt k σ)))))) (zu_ledger (i := 5) (by decide)) ?_
    exact zret_v E rfl dX2_unload_80 (by simp only [hUnload, if_pos h1])
  · refine zr_aload_n X 2 dX2_unload_21 rfl rfl ?_
    refine zr_get X zfd_RX2_33 (b) (show b < w.1 by omega) (zPut_in (o := 0) (by omega)) (v := .ref (w.2 (b + 5))) rfl dX2_unload_22 ?_
    refine zr_dup X dX2_unload_25 rfl ?_
    refine zr_getN X zfn_RX2_171 (b + 5) (show b + 5 < w.1 by omega) (zPut_in (o := 5) (by omega)) (v := .int ((hUn1 k σ) 9)) rfl dX2_unload_26 ?_
    refine zr_iload_n X 1 dX2_unload_29 rfl rfl ?_
    refine zr_iadd X dX2_unload_30 ?_
    refine zr_putN X zfn_RX2_171 zty_3_4 (b + 5) (show b + 5 < w.1 by omega) (zPut_in (o := 5) (by omega)) rfl rfl (Nat.le_of_ble_eq_true rfl) (eLedger_set _ _ 4 (by decide)) dX2_unload_31 ?_
    refine zcw (f2 := zPut f b (zHut w cy b γ (upd (hUn1 k σ) 9 (((hUn1 k σ) 9) + (σ (19 + 9 * k + 4)))))) (zu_ledger (i := 4) (by decide)) ?_
    exact zret_v E rfl dX2_unload_34 (by simp only [hUnload, if_neg h2])
def hFwant (σ : Nat → Int32) (j : Nat) : Int32 := (σ (55 + 6 * j + 1) + 1) / 2
def hFt1 (σ : Nat → Int32) (j : Nat) : (Nat → Int32) × Int32 := shTake (fun k => σ (115 + k)) 0 (σ 17) (hFwant σ j) 21
def hFwhole (σ : Nat → Int32) (j : Nat) : Int32 := hFwant σ j - (hFt1 σ j).2
def hFs1 (σ : Nat → Int32) (j : Nat) : Nat → Int32 := setA σ (hFt1 σ j).1
def hFlack (σ : Nat → Int32) (j : Nat) : Int32 := hFwant σ j - hFwhole σ j
def hFst (σ : Nat → Int32) (j : Nat) : Int32 := hFs1 σ j 17 + 1
def hFhalf (σ : Nat → Int32) (j : Nat) : Int32 := shMany (fun k => hFs1 σ j (115 + k)) (hFst σ j) 20 21 / 2
def hFsoup (σ : Nat → Int32) (j : Nat) : Int32 := if hFhalf σ j < hFlack σ j then hFhalf σ j else hFlack σ j
def hFt2 (σ : Nat → Int32) (j : Nat) : (Nat → Int32) × Int32 := shTake (fun k => hFs1 σ j (115 + k)) (hFst σ j) 20 (hFsoup σ j * 2) 21
def hFs2 (σ : Nat → Int32) (j : Nat) : Nat → Int32 := setA (hFs1 σ j) (hFt2 σ j).1
def hFs3 (σ : Nat → Int32) (j : Nat) : Nat → Int32 := upd (hFs2 σ j) 8 (hFs1 σ j 8 + (hFwhole σ j + (hFsoup σ j * 2 - (hFt2 σ j).2)))
def hFfare (σ : Nat → Int32) (j : Nat) : Int32 := if (hFlack σ j) = 0 then 3 else 2
def hFs4 (s : Nat → Int32) (j : Nat) : Nat → Int32 := upd (upd s (55 + 6 * j + 5) (s (55 + 6 * j + 5) + 1)) 12 ((upd s (55 + 6 * j + 5) (s (55 + 6 * j + 5) + 1)) 12 + 1)
def hFpay (s : Nat → Int32) (j : Nat) (x : Int32) : Nat → Int32 := upd (upd (upd s (55 + 6 * j + 4) (s (55 + 6 * j + 4) + x)) 13 ((upd s (55 + 6 * j + 4) (s (55 + 6 * j + 4) + x)) 13 + x)) 5 ((upd (upd s (55 + 6 * j + 4) (s (55 + 6 * j + 4) + x)) 13 ((upd s (55 + 6 * j + 4) (s (55 + 6 * j + 4) + x)) 13 + x)) 5 + x)
def hFeed (σ : Nat → Int32) (j : Nat) : Nat → Int32 := if (hFlack σ j) ≤ (hFsoup σ j) then hFpay (hFs3 σ j) j (hFfare σ j * hFs3 σ j (55 + 6 * j + 1)) else hFpay (hFs4 (hFs3 σ j) j) j (1 * hFs4 (hFs3 σ j) j (55 + 6 * j + 1))
set_option maxHeartbeats 4000000 in
set_option maxRecDepth 100000 in
theorem k_feed {l : Launch} {D : va_G} {cy : Nat → ClassId} {w : zW} {f : zF} {b mc bk : Nat} {γ : Nat → Nat} {σ : Nat → Int32} {j : Nat} (hb : b + 21 ≤ w.1) (hm : σ 0 = nI mc) (hmc : mc ≤ 4) (hg : σ 1 = nI bk) (hbk : bk ≤ 10) (hγ : ∀ k, k < 10 → γ k < 10) (hj : j < 10) : zSd l D cy yX2_feed cX2_feed 9 none 1 26 [.ref (w.2 (b)), .ref (w.2 (b + (11 + j)))] w (zPut f b (zHut w cy b γ σ)) none (zPut f b (zHut w cy b γ (hFeed σ j))) := by
  refine zSd.intro (by decide) (Nat.le_of_ble_eq_true rfl) (fun G X E => ?_)
  show G (w, 0, 0) (zPut f b (zHut w cy b γ σ)) [(0, .ref (w.2 (b))), (1, .ref (w.2 (b + (11 + j))))] 0 []
  refine zr_aload_n X 1 dX2_feed_0 rfl rfl ?_
  refine zr_cV X (As := []) (rest := []) (f' := zPut f b (zHut w cy b γ σ)) (st' := [.int (hFwant σ j)]) zc_X0_loavesADay (b + (11 + j)) (show b + (11 + j) < w.1 by omega) ((zPut_in (o := 11 + j) (by omega)).trans (zHut_group (k := j))) (q9 := _) rfl rfl (k_Group_loavesADay (show b + (11 + j) < w.1 by omega) ((zPut_in (o := 11 + j) (by omega)).trans (zHut_group (k := j)))) ⟨Nat.le_of_ble_eq_true rfl, Nat.le_of_ble_eq_true rfl⟩ ⟨Nat.le_refl _, Nat.le_refl _⟩ rfl (Nat.le_of_ble_eq_true rfl) zm_2_207 rfl dX2_feed_1 rfl ?_
  refine zr_istore_n X (ls' := [(2, .int (hFwant σ j)), (0, .ref (w.2 (b))), (1, .ref (w.2 (b + (11 + j))))]) dX2_feed_4 rfl (by decide) rfl ?_
  refine zr_aload_n X 1 dX2_feed_5 rfl rfl ?_
  refine zr_get X zfd_RX2_26 (b) (show b < w.1 by omega) (zPut_in (o := 0) (by omega)) (v := .ref (w.2 (b + 3))) rfl dX2_feed_6 ?_
  refine zr_iconst X (v := 0) dX2_feed_9 (by decide) ?_
  refine zr_aload_n X 1 dX2_feed_10 rfl rfl ?_
  refine zr_get X zfd_RX2_40 (b) (show b < w.1 by omega) (zPut_in (o := 0) (by omega)) (v := .ref (w.2 (b + 6))) rfl dX2_feed_11 ?_
  refine zr_getN X zfn_RX2_203 (b + 6) (show b + 6 < w.1 by omega) (zPut_in (o := 6) (by omega)) (v := .int (σ 17)) rfl dX2_feed_14 ?_
  refine zr_iload_n X 0 dX2_feed_17 rfl rfl ?_
  refine zr_cV X (As := [.int (0), .int (σ 17), .int (hFwant σ j)]) (rest := []) (f' := va_up (zPut f b (zHut w cy b γ σ)) (b + 4) (eInts cy 21 ((shTake (fun k9 => σ (115 + k9)) 0 (σ 17) (hFwant σ j) 21).1))) (st' := [.int (hFwhole σ j)]) zc_X7_take (b + 3) (show b + 3 < w.1 by omega) (zPut_in (o := 3) (by omega)) (q9 := _) rfl rfl (k_Shelf_take (show b + 3 < w.1 by omega) (show b + 4 < w.1 by omega) (zPut_in (o := 3) (by omega)) (zPut_in (o := 4) (by omega)) (by omega)) ⟨Nat.le_of_ble_eq_true rfl, Nat.le_of_ble_eq_true rfl⟩ ⟨Nat.le_refl _, Nat.le_refl _⟩ rfl (Nat.le_of_ble_eq_true rfl) zm_2_211 rfl dX2_feed_18 rfl ?_
  refine zcw (f2 := zPut f b (zHut w cy b γ (hFs1 σ j))) (zu_shelf) ?_
  refine zr_istore_n X (ls' := [(3, .int (hFwhole σ j)), (2, .int (hFwant σ j)), (0, .ref (w.2 (b))), (1, .ref (w.2 (b + (11 + j))))]) dX2_feed_21 rfl (by decide) rfl ?_
  refine zr_iload_n X 1 dX2_feed_22 rfl rfl ?_
  refine zr_iload_n X 0 dX2_feed_23 rfl rfl ?_
  refine zr_isub X dX2_feed_24 ?_
  refine zr_istore X (ls' := [(4, .int (hFlack σ j)), (3, .int (hFwhole σ j)), (2, .int (hFwant σ j)), (0, .ref (w.2 (b))), (1, .ref (w.2 (b + (11 + j))))]) dX2_feed_25 (by decide) rfl ?_
  refine zr_aload_n X 3 dX2_feed_27 rfl rfl ?_
  refine zr_get X zfd_RX2_40 (b) (show b < w.1 by omega) (zPut_in (o := 0) (by omega)) (v := .ref (w.2 (b + 6))) rfl dX2_feed_28 ?_
  refine zr_getN X zfn_RX2_203 (b + 6) (show b + 6 < w.1 by omega) (zPut_in (o := 6) (by omega)) (v := .int ((hFs1 σ j) 17)) rfl dX2_feed_31 ?_
  refine zr_iconst X (v := 1) dX2_feed_34 (by decide) ?_
  refine zr_iadd X dX2_feed_35 ?_
  refine zr_istore X (ls' := [(5, .int (hFst σ j)), (4, .int (hFlack σ j)), (3, .int (hFwhole σ j)), (2, .int (hFwant σ j)), (0, .ref (w.2 (b))), (1, .ref (w.2 (b + (11 + j))))]) dX2_feed_36 (by decide) rfl ?_
  refine zr_iload X 1 dX2_feed_38 rfl ?_
  refine zr_aload_n X 4 dX2_feed_40 rfl rfl ?_
  refine zr_get X zfd_RX2_26 (b) (show b < w.1 by omega) (zPut_in (o := 0) (by omega)) (v := .ref (w.2 (b + 3))) rfl dX2_feed_41 ?_
  refine zr_iload X 0 dX2_feed_44 rfl ?_
  refine zr_bipush X (v := 20) dX2_feed_46 (by decide) ?_
  refine zr_cV X (As := [.int (hFst σ j), .int (20)]) (rest := [.int (hFlack σ j)]) (f' := zPut f b (zHut w cy b γ (hFs1 σ j))) (st' := [.int (shMany (fun k => hFs1 σ j (115 + k)) (hFst σ j) 20 21), .int (hFlack σ j)]) zc_X7_howMany (b + 3) (show b + 3 < w.1 by omega) (zPut_in (o := 3) (by omega)) (q9 := _) rfl rfl (k_Shelf_howMany (show b + 3 < w.1 by omega) (show b + 4 < w.1 by omega) (zPut_in (o := 3) (by omega)) (zPut_in (o := 4) (by omega)) (by omega)) ⟨Nat.le_of_ble_eq_true rfl, Nat.le_of_ble_eq_true rfl⟩ ⟨Nat.le_refl _, Nat.le_refl _⟩ rfl (Nat.le_of_ble_eq_true rfl) zm_2_188 rfl dX2_feed_48 rfl ?_
  refine zr_iconst X (v := 2) dX2_feed_51 (by decide) ?_
  refine zr_idiv X dX2_feed_52 (by decide) ?_
  refine zr_min X zm_2_192 (by decide) (by show 0 + 13 ≤ _; decide) (Nat.le_refl _) (Nat.le_refl _) dX2_feed_53 ?_
  refine zr_istore X (ls' := [(6, .int (hFsoup σ j)), (5, .int (hFst σ j)), (4, .int (hFlack σ j)), (3, .int (hFwhole σ j)), (2, .int (hFwant σ j)), (0, .ref (w.2 (b))), (1, .ref (w.2 (b + (11 + j))))]) dX2_feed_56 (by decide) rfl ?_
  refine zr_aload_n X 5 dX2_feed_58 rfl rfl ?_
  refine zr_get X zfd_RX2_33 (b) (show b < w.1 by omega) (zPut_in (o := 0) (by omega)) (v := .ref (w.2 (b + 5))) rfl dX2_feed_59 ?_
  refine zr_dup X dX2_feed_62 rfl ?_
  refine zr_getN X zfn_RX2_145 (b + 5) (show b + 5 < w.1 by omega) (zPut_in (o := 5) (by omega)) (v := .int ((hFs1 σ j) 8)) rfl dX2_feed_63 ?_
  refine zr_iload_n X 3 dX2_feed_66 rfl rfl ?_
  refine zr_aload_n X 5 dX2_feed_67 rfl rfl ?_
  refine zr_get X zfd_RX2_26 (b) (show b < w.1 by omega) (zPut_in (o := 0) (by omega)) (v := .ref (w.2 (b + 3))) rfl dX2_feed_68 ?_
  refine zr_iload X 1 dX2_feed_71 rfl ?_
  refine zr_bipush X (v := 20) dX2_feed_73 (by decide) ?_
  refine zr_iload X 0 dX2_feed_75 rfl ?_
  refine zr_iconst X (v := 2) dX2_feed_77 (by decide) ?_
  refine zr_imul X dX2_feed_78 ?_
  refine zr_cV X (As := [.int (hFst σ j), .int (20), .int ((hFsoup σ j) * 2)]) (rest := [.int (hFwhole σ j), .int ((hFs1 σ j) 8), .ref (w.2 (b + 5))]) (f' := va_up (zPut f b (zHut w cy b γ (hFs1 σ j))) (b + 4) (eInts cy 21 ((shTake (fun k9 => (hFs1 σ j) (115 + k9)) (hFst σ j) 20 ((hFsoup σ j) * 2) 21).1))) (st' := [.int ((hFsoup σ j) * 2 - (hFt2 σ j).2), .int (hFwhole σ j), .int ((hFs1 σ j) 8), .ref (w.2 (b + 5))]) zc_X7_take (b + 3) (show b + 3 < w.1 by omega) (zPut_in (o := 3) (by omega)) (q9 := _) rfl rfl (k_Shelf_take (show b + 3 < w.1 by omega) (show b + 4 < w.1 by omega) (zPut_in (o := 3) (by omega)) (zPut_in (o := 4) (by omega)) (by omega)) ⟨Nat.le_of_ble_eq_true rfl, Nat.le_of_ble_eq_true rfl⟩ ⟨Nat.le_refl _, Nat.le_refl _⟩ rfl (Nat.le_of_ble_eq_true rfl) zm_2_211 rfl dX2_feed_79 rfl ?_
  refine zcw (f2 := zPut f b (zHut w cy b γ (hFs2 σ j))) (zu_shelf) ?_
  refine zr_iadd X dX2_feed_82 ?_
  refine zr_iadd X dX2_feed_83 ?_
  refine zr_putN X zfn_RX2_145 zty_3_3 (b + 5) (show b + 5 < w.1 by omega) (zPut_in (o := 5) (by omega)) rfl rfl (Nat.le_of_ble_eq_true rfl) (eLedger_set _ _ 3 (by decide)) dX2_feed_84 ?_
  refine zcw (f2 := zPut f b (zHut w cy b γ (hFs3 σ j))) (zu_ledger (i := 3) (by decide)) ?_
  have J97 : G (w, 0, 0) (zPut f b (zHut w cy b γ (hFs3 σ j))) [(0, .ref (w.2 (b))), (1, .ref (w.2 (b + (11 + j)))), (2, .int (hFwant σ j)), (3, .int (hFwhole σ j)), (4, .int (hFlack σ j)), (5, .int (hFst σ j)), (6, .int (hFsoup σ j))] 97 [.int (hFfare σ j)] := by
    refine zr_istore X (ls' := [(7, .int (hFfare σ j)), (0, .ref (w.2 (b))), (1, .ref (w.2 (b + (11 + j)))), (2, .int (hFwant σ j)), (3, .int (hFwhole σ j)), (4, .int (hFlack σ j)), (5, .int (hFst σ j)), (6, .int (hFsoup σ j))]) dX2_feed_97 (by decide) rfl ?_
    refine zr_iload X 7 dX2_feed_99 rfl ?_
    refine zr_iload X 5 dX2_feed_101 rfl ?_
    refine zr_icmp_ge X (tgt := 132) dX2_feed_103 (by decide) (fun h1 => ?_) (fun h2 => ?_)
    · refine zr_iload X 0 dX2_feed_132 rfl ?_
      refine zr_aload_n X 2 dX2_feed_134 rfl rfl ?_
      refine zr_getN X zfn_RX2_214 (b + (11 + j)) (show b + (11 + j) < w.1 by omega) ((zPut_in (o := 11 + j) (by omega)).trans (zHut_group (k := j))) (v := .int ((hFs3 σ j) (55 + 6 * j + 1))) rfl dX2_feed_135 ?_
      refine zr_imul X dX2_feed_138 ?_
      refine zr_istore X (ls' := [(8, .int ((hFfare σ j) * ((hFs3 σ j) (55 + 6 * j + 1)))), (7, .int (hFfare σ j)), (0, .ref (w.2 (b))), (1, .ref (w.2 (b + (11 + j)))), (2, .int (hFwant σ j)), (3, .int (hFwhole σ j)), (4, .int (hFlack σ j)), (5, .int (hFst σ j)), (6, .int (hFsoup σ j))]) dX2_feed_139 (by decide) rfl ?_
      refine zr_aload_n X 3 dX2_feed_141 rfl rfl ?_
      refine zr_dup X dX2_feed_142 rfl ?_
      refine zr_getN X zfn_RX2_217 (b + (11 + j)) (show b + (11 + j) < w.1 by omega) ((zPut_in (o := 11 + j) (by omega)).trans (zHut_group (k := j))) (v := .int ((hFs3 σ j) (55 + 6 * j + 4))) rfl dX2_feed_143 ?_
      refine zr_iload X 0 dX2_feed_146 rfl ?_
      refine zr_iadd X dX2_feed_148 ?_
      refine zr_putN X zfn_RX2_217 zty_0_4 (b + (11 + j)) (show b + (11 + j) < w.1 by omega) ((zPut_in (o := 11 + j) (by omega)).trans (zHut_group (k := j))) rfl rfl (Nat.le_of_ble_eq_true rfl) (eGroup_set _ _ 4 (by decide)) dX2_feed_149 ?_
      refine zcw (f2 := zPut f b (zHut w cy b γ (upd (hFs3 σ j) (55 + 6 * j + 4) (((hFs3 σ j) (55 + 6 * j + 4)) + ((hFfare σ j) * ((hFs3 σ j) (55 + 6 * j + 1))))))) (zu_groupF (k := j) (i := 4) (by omega) (by decide)) ?_
      refine zr_aload_n X 2 dX2_feed_152 rfl rfl ?_
      refine zr_get X zfd_RX2_33 (b) (show b < w.1 by omega) (zPut_in (o := 0) (by omega)) (v := .ref (w.2 (b + 5))) rfl dX2_feed_153 ?_
      refine zr_dup X dX2_feed_156 rfl ?_
      refine zr_getN X zfn_RX2_220 (b + 5) (show b + 5 < w.1 by omega) (zPut_in (o := 5) (by omega)) (v := .int ((upd (hFs3 σ j) (55 + 6 * j + 4) (((hFs3 σ j) (55 + 6 * j + 4)) + ((hFfare σ j) * ((hFs3 σ j) (55 + 6 * j + 1))))) 13)) rfl dX2_feed_157 ?_
      refine zr_iload X 0 dX2_feed_160 rfl ?_
      refine zr_iadd X dX2_feed_162 ?_
      refine zr_putN X zfn_RX2_220 zty_3_8 (b + 5) (show b + 5 < w.1 by omega) (zPut_in (o := 5) (by omega)) rfl rfl (Nat.le_of_ble_eq_true rfl) (eLedger_set _ _ 8 (by decide)) dX2_feed_163 ?_
      refine zcw (f2 := zPut f b (zHut w cy b γ (upd (upd (hFs3 σ j) (55 + 6 * j + 4) (((hFs3 σ j) (55 + 6 * j + 4)) + ((hFfare σ j) * ((hFs3 σ j) (55 + 6 * j + 1))))) 13 (((upd (hFs3 σ j) (55 + 6 * j + 4) (((hFs3 σ j) (55 + 6 * j + 4)) + ((hFfare σ j) * ((hFs3 σ j) (55 + 6 * j + 1))))) 13) + ((hFfare σ j) * ((hFs3 σ j) (55 + 6 * j + 1))))))) (zu_ledger (i := 8) (by decide)) ?_
      refine zr_aload_n X 2 dX2_feed_166 rfl rfl ?_
      refine zr_get X zfd_RX2_33 (b) (show b < w.1 by omega) (zPut_in (o := 0) (by omega)) (v := .ref (w.2 (b + 5))) rfl dX2_feed_167 ?_
      refine zr_dup X dX2_feed_170 rfl ?_
      refine zr_getN X zfn_RX2_128 (b + 5) (show b + 5 < w.1 by omega) (zPut_in (o := 5) (by omega)) (v := .int ((upd (upd (hFs3 σ j) (55 + 6 * j + 4) (((hFs3 σ j) (55 + 6 * j + 4)) + ((hFfare σ j) * ((hFs3 σ j) (55 + 6 * j + 1))))) 13 (((upd (hFs3 σ j) (55 + 6 * j + 4) (((hFs3 σ j) (55 + 6 * j + 4)) + ((hFfare σ j) * ((hFs3 σ j) (55 + 6 * j + 1))))) 13) + ((hFfare σ j) * ((hFs3 σ j) (55 + 6 * j + 1))))) 5)) rfl dX2_feed_171 ?_
      refine zr_iload X 0 dX2_feed_174 rfl ?_
      refine zr_iadd X dX2_feed_176 ?_
      refine zr_putN X zfn_RX2_128 zty_3_0 (b + 5) (show b + 5 < w.1 by omega) (zPut_in (o := 5) (by omega)) rfl rfl (Nat.le_of_ble_eq_true rfl) (eLedger_set _ _ 0 (by decide)) dX2_feed_177 ?_
      refine zcw (f2 := zPut f b (zHut w cy b γ (upd (upd (upd (hFs3 σ j) (55 + 6 * j + 4) (((hFs3 σ j) (55 + 6 * j + 4)) + ((hFfare σ j) * ((hFs3 σ j) (55 + 6 * j + 1))))) 13 (((upd (hFs3 σ j) (55 + 6 * j + 4) (((hFs3 σ j) (55 + 6 * j + 4)) + ((hFfare σ j) * ((hFs3 σ j) (55 + 6 * j + 1))))) 13) + ((hFfare σ j) * ((hFs3 σ j) (55 + 6 * j + 1))))) 5 (((upd (upd (hFs3 σ j) (55 + 6 * j + 4) (((hFs3 σ j) (55 + 6 * j + 4)) + ((hFfare σ j) * ((hFs3 σ j) (55 + 6 * j + 1))))) 13 (((upd (hFs3 σ j) (55 + 6 * j + 4) (((hFs3 σ j) (55 + 6 * j + 4)) + ((hFfare σ j) * ((hFs3 σ j) (55 + 6 * j + 1))))) 13) + ((hFfare σ j) * ((hFs3 σ j) (55 + 6 * j + 1))))) 5) + ((hFfare σ j) * ((hFs3 σ j) (55 + 6 * j + 1))))))) (zu_ledger (i := 0) (by decide)) ?_
      exact zret_v E rfl dX2_feed_180 (by simp only [hFeed, hFpay, hFs4, if_pos h1])
    · refine zr_iconst X (v := 1) dX2_feed_106 (by decide) ?_
      refine zr_istore X (ls' := [(7, .int (1)), (0, .ref (w.2 (b))), (1, .ref (w.2 (b + (11 + j)))), (2, .int (hFwant σ j)), (3, .int (hFwhole σ j)), (4, .int (hFlack σ j)), (5, .int (hFst σ j)), (6, .int (hFsoup σ j))]) dX2_feed_107 (by decide) rfl ?_
      refine zr_aload_n X 2 dX2_feed_109 rfl rfl ?_
      refine zr_dup X dX2_feed_110 rfl ?_
      refine zr_getN X zfn_RX2_210 (b + (11 + j)) (show b + (11 + j) < w.1 by omega) ((zPut_in (o := 11 + j) (by omega)).trans (zHut_group (k := j))) (v := .int ((hFs3 σ j) (55 + 6 * j + 5))) rfl dX2_feed_111 ?_
      refine zr_iconst X (v := 1) dX2_feed_114 (by decide) ?_
      refine zr_iadd X dX2_feed_115 ?_
      refine zr_putN X zfn_RX2_210 zty_0_5 (b + (11 + j)) (show b + (11 + j) < w.1 by omega) ((zPut_in (o := 11 + j) (by omega)).trans (zHut_group (k := j))) rfl rfl (Nat.le_of_ble_eq_true rfl) (eGroup_set _ _ 5 (by decide)) dX2_feed_116 ?_
      refine zcw (f2 := zPut f b (zHut w cy b γ (upd (hFs3 σ j) (55 + 6 * j + 5) (((hFs3 σ j) (55 + 6 * j + 5)) + 1)))) (zu_groupF (k := j) (i := 5) (by omega) (by decide)) ?_
      refine zr_aload_n X 1 dX2_feed_119 rfl rfl ?_
      refine zr_get X zfd_RX2_33 (b) (show b < w.1 by omega) (zPut_in (o := 0) (by omega)) (v := .ref (w.2 (b + 5))) rfl dX2_feed_120 ?_
      refine zr_dup X dX2_feed_123 rfl ?_
      refine zr_getN X zfn_RX2_213 (b + 5) (show b + 5 < w.1 by omega) (zPut_in (o := 5) (by omega)) (v := .int ((upd (hFs3 σ j) (55 + 6 * j + 5) (((hFs3 σ j) (55 + 6 * j + 5)) + 1)) 12)) rfl dX2_feed_124 ?_
      refine zr_iconst X (v := 1) dX2_feed_127 (by decide) ?_
      refine zr_iadd X dX2_feed_128 ?_
      refine zr_putN X zfn_RX2_213 zty_3_7 (b + 5) (show b + 5 < w.1 by omega) (zPut_in (o := 5) (by omega)) rfl rfl (Nat.le_of_ble_eq_true rfl) (eLedger_set _ _ 7 (by decide)) dX2_feed_129 ?_
      refine zcw (f2 := zPut f b (zHut w cy b γ (upd (upd (hFs3 σ j) (55 + 6 * j + 5) (((hFs3 σ j) (55 + 6 * j + 5)) + 1)) 12 (((upd (hFs3 σ j) (55 + 6 * j + 5) (((hFs3 σ j) (55 + 6 * j + 5)) + 1)) 12) + 1)))) (zu_ledger (i := 7) (by decide)) ?_
      refine zr_iload X 0 dX2_feed_132 rfl ?_
      refine zr_aload_n X 2 dX2_feed_134 rfl rfl ?_
      refine zr_getN X zfn_RX2_214 (b + (11 + j)) (show b + (11 + j) < w.1 by omega) ((zPut_in (o := 11 + j) (by omega)).trans (zHut_group (k := j))) (v := .int ((upd (upd (hFs3 σ j) (55 + 6 * j + 5) (((hFs3 σ j) (55 + 6 * j + 5)) + 1)) 12 (((upd (hFs3 σ j) (55 + 6 * j + 5) (((hFs3 σ j) (55 + 6 * j + 5)) + 1)) 12) + 1)) (55 + 6 * j + 1))) rfl dX2_feed_135 ?_
      refine zr_imul X dX2_feed_138 ?_
      refine zr_istore X (ls' := [(8, .int (1 * ((upd (upd (hFs3 σ j) (55 + 6 * j + 5) (((hFs3 σ j) (55 + 6 * j + 5)) + 1)) 12 (((upd (hFs3 σ j) (55 + 6 * j + 5) (((hFs3 σ j) (55 + 6 * j + 5)) + 1)) 12) + 1)) (55 + 6 * j + 1)))), (7, .int (1)), (0, .ref (w.2 (b))), (1, .ref (w.2 (b + (11 + j)))), (2, .int (hFwant σ j)), (3, .int (hFwhole σ j)), (4, .int (hFlack σ j)), (5, .int (hFst σ j)), (6, .int (hFsoup σ j))]) dX2_feed_139 (by decide) rfl ?_
      refine zr_aload_n X 3 dX2_feed_141 rfl rfl ?_
      refine zr_dup X dX2_feed_142 rfl ?_
      refine zr_getN X zfn_RX2_217 (b + (11 + j)) (show b + (11 + j) < w.1 by omega) ((zPut_in (o := 11 + j) (by omega)).trans (zHut_group (k := j))) (v := .int ((upd (upd (hFs3 σ j) (55 + 6 * j + 5) (((hFs3 σ j) (55 + 6 * j + 5)) + 1)) 12 (((upd (hFs3 σ j) (55 + 6 * j + 5) (((hFs3 σ j) (55 + 6 * j + 5)) + 1)) 12) + 1)) (55 + 6 * j + 4))) rfl dX2_feed_143 ?_
      refine zr_iload X 0 dX2_feed_146 rfl ?_
      refine zr_iadd X dX2_feed_148 ?_
      refine zr_putN X zfn_RX2_217 zty_0_4 (b + (11 + j)) (show b + (11 + j) < w.1 by omega) ((zPut_in (o := 11 + j) (by omega)).trans (zHut_group (k := j))) rfl rfl (Nat.le_of_ble_eq_true rfl) (eGroup_set _ _ 4 (by decide)) dX2_feed_149 ?_
      refine zcw (f2 := zPut f b (zHut w cy b γ (upd (upd (upd (hFs3 σ j) (55 + 6 * j + 5) (((hFs3 σ j) (55 + 6 * j + 5)) + 1)) 12 (((upd (hFs3 σ j) (55 + 6 * j + 5) (((hFs3 σ j) (55 + 6 * j + 5)) + 1)) 12) + 1)) (55 + 6 * j + 4) (((upd (upd (hFs3 σ j) (55 + 6 * j + 5) (((hFs3 σ j) (55 + 6 * j + 5)) + 1)) 12 (((upd (hFs3 σ j) (55 + 6 * j + 5) (((hFs3 σ j) (55 + 6 * j + 5)) + 1)) 12) + 1)) (55 + 6 * j + 4)) + (1 * ((upd (upd (hFs3 σ j) (55 + 6 * j + 5) (((hFs3 σ j) (55 + 6 * j + 5)) + 1)) 12 (((upd (hFs3 σ j) (55 + 6 * j + 5) (((hFs3 σ j) (55 + 6 * j + 5)) + 1)) 12) + 1)) (55 + 6 * j + 1))))))) (zu_groupF (k := j) (i := 4) (by omega) (by decide)) ?_
      refine zr_aload_n X 2 dX2_feed_152 rfl rfl ?_
      refine zr_get X zfd_RX2_33 (b) (show b < w.1 by omega) (zPut_in (o := 0) (by omega)) (v := .ref (w.2 (b + 5))) rfl dX2_feed_153 ?_
      refine zr_dup X dX2_feed_156 rfl ?_
      refine zr_getN X zfn_RX2_220 (b + 5) (show b + 5 < w.1 by omega) (zPut_in (o := 5) (by omega)) (v := .int ((upd (upd (upd (hFs3 σ j) (55 + 6 * j + 5) (((hFs3 σ j) (55 + 6 * j + 5)) + 1)) 12 (((upd (hFs3 σ j) (55 + 6 * j + 5) (((hFs3 σ j) (55 + 6 * j + 5)) + 1)) 12) + 1)) (55 + 6 * j + 4) (((upd (upd (hFs3 σ j) (55 + 6 * j + 5) (((hFs3 σ j) (55 + 6 * j + 5)) + 1)) 12 (((upd (hFs3 σ j) (55 + 6 * j + 5) (((hFs3 σ j) (55 + 6 * j + 5)) + 1)) 12) + 1)) (55 + 6 * j + 4)) + (1 * ((upd (upd (hFs3 σ j) (55 + 6 * j + 5) (((hFs3 σ j) (55 + 6 * j + 5)) + 1)) 12 (((upd (hFs3 σ j) (55 + 6 * j + 5) (((hFs3 σ j) (55 + 6 * j + 5)) + 1)) 12) + 1)) (55 + 6 * j + 1))))) 13)) rfl dX2_feed_157 ?_
      refine zr_iload X 0 dX2_feed_160 rfl ?_
      refine zr_iadd X dX2_feed_162 ?_
      refine zr_putN X zfn_RX2_220 zty_3_8 (b + 5) (show b + 5 < w.1 by omega) (zPut_in (o := 5) (by omega)) rfl rfl (Nat.le_of_ble_eq_true rfl) (eLedger_set _ _ 8 (by decide)) dX2_feed_163 ?_
      refine zcw (f2 := zPut f b (zHut w cy b γ (upd (upd (upd (upd (hFs3 σ j) (55 + 6 * j + 5) (((hFs3 σ j) (55 + 6 * j + 5)) + 1)) 12 (((upd (hFs3 σ j) (55 + 6 * j + 5) (((hFs3 σ j) (55 + 6 * j + 5)) + 1)) 12) + 1)) (55 + 6 * j + 4) (((upd (upd (hFs3 σ j) (55 + 6 * j + 5) (((hFs3 σ j) (55 + 6 * j + 5)) + 1)) 12 (((upd (hFs3 σ j) (55 + 6 * j + 5) (((hFs3 σ j) (55 + 6 * j + 5)) + 1)) 12) + 1)) (55 + 6 * j + 4)) + (1 * ((upd (upd (hFs3 σ j) (55 + 6 * j + 5) (((hFs3 σ j) (55 + 6 * j + 5)) + 1)) 12 (((upd (hFs3 σ j) (55 + 6 * j + 5) (((hFs3 σ j) (55 + 6 * j + 5)) + 1)) 12) + 1)) (55 + 6 * j + 1))))) 13 (((upd (upd (upd (hFs3 σ j) (55 + 6 * j + 5) (((hFs3 σ j) (55 + 6 * j + 5)) + 1)) 12 (((upd (hFs3 σ j) (55 + 6 * j + 5) (((hFs3 σ j) (55 + 6 * j + 5)) + 1)) 12) + 1)) (55 + 6 * j + 4) (((upd (upd (hFs3 σ j) (55 + 6 * j + 5) (((hFs3 σ j) (55 + 6 * j + 5)) + 1)) 12 (((upd (hFs3 σ j) (55 + 6 * j + 5) (((hFs3 σ j) (55 + 6 * j + 5)) + 1)) 12) + 1)) (55 + 6 * j + 4)) + (1 * ((upd (upd (hFs3 σ j) (55 + 6 * j + 5) (((hFs3 σ j) (55 + 6 * j + 5)) + 1)) 12 (((upd (hFs3 σ j) (55 + 6 * j + 5) (((hFs3 σ j) (55 + 6 * j + 5)) + 1)) 12) + 1)) (55 + 6 * j + 1))))) 13) + (1 * ((upd (upd (hFs3 σ j) (55 + 6 * j + 5) (((hFs3 σ j) (55 + 6 * j + 5)) + 1)) 12 (((upd (hFs3 σ j) (55 + 6 * j + 5) (((hFs3 σ j) (55 + 6 * j + 5)) + 1)) 12) + 1)) (55 + 6 * j + 1))))))) (zu_ledger (i := 8) (by decide)) ?_
      refine zr_aload_n X 2 dX2_feed_166 rfl rfl ?_
      refine zr_get X zfd_RX2_33 (b) (show b < w.1 by omega) (zPut_in (o := 0) (by omega)) (v := .ref (w.2 (b + 5))) rfl dX2_feed_167 ?_
      refine zr_dup X dX2_feed_170 rfl ?_
      refine zr_getN X zfn_RX2_128 (b + 5) (show b + 5 < w.1 by omega) (zPut_in (o := 5) (by omega)) (v := .int ((upd (upd (upd (upd (hFs3 σ j) (55 + 6 * j + 5) (((hFs3 σ j) (55 + 6 * j + 5)) + 1)) 12 (((upd (hFs3 σ j) (55 + 6 * j + 5) (((hFs3 σ j) (55 + 6 * j + 5)) + 1)) 12) + 1)) (55 + 6 * j + 4) (((upd (upd (hFs3 σ j) (55 + 6 * j + 5) (((hFs3 σ j) (55 + 6 * j + 5)) + 1)) 12 (((upd (hFs3 σ j) (55 + 6 * j + 5) (((hFs3 σ j) (55 + 6 * j + 5)) + 1)) 12) + 1)) (55 + 6 * j + 4)) + (1 * ((upd (upd (hFs3 σ j) (55 + 6 * j + 5) (((hFs3 σ j) (55 + 6 * j + 5)) + 1)) 12 (((upd (hFs3 σ j) (55 + 6 * j + 5) (((hFs3 σ j) (55 + 6 * j + 5)) + 1)) 12) + 1)) (55 + 6 * j + 1))))) 13 (((upd (upd (upd (hFs3 σ j) (55 + 6 * j + 5) (((hFs3 σ j) (55 + 6 * j + 5)) + 1)) 12 (((upd (hFs3 σ j) (55 + 6 * j + 5) (((hFs3 σ j) (55 + 6 * j + 5)) + 1)) 12) + 1)) (55 + 6 * j + 4) (((upd (upd (hFs3 σ j) (55 + 6 * j + 5) (((hFs3 σ j) (55 + 6 * j + 5)) + 1)) 12 (((upd (hFs3 σ j) (55 + 6 * j + 5) (((hFs3 σ j) (55 + 6 * j + 5)) + 1)) 12) + 1)) (55 + 6 * j + 4)) + (1 * ((upd (upd (hFs3 σ j) (55 + 6 * j + 5) (((hFs3 σ j) (55 + 6 * j + 5)) + 1)) 12 (((upd (hFs3 σ j) (55 + 6 * j + 5) (((hFs3 σ j) (55 + 6 * j + 5)) + 1)) 12) + 1)) (55 + 6 * j + 1))))) 13) + (1 * ((upd (upd (hFs3 σ j) (55 + 6 * j + 5) (((hFs3 σ j) (55 + 6 * j + 5)) + 1)) 12 (((upd (hFs3 σ j) (55 + 6 * j + 5) (((hFs3 σ j) (55 + 6 * j + 5)) + 1)) 12) + 1)) (55 + 6 * j + 1))))) 5)) rfl dX2_feed_171 ?_
      refine zr_iload X 0 dX2_feed_174 rfl ?_
      refine zr_iadd X dX2_feed_176 ?_
      refine zr_putN X zfn_RX2_128 zty_3_0 (b + 5) (show b + 5 < w.1 by omega) (zPut_in (o := 5) (by omega)) rfl rfl (Nat.le_of_ble_eq_true rfl) (eLedger_set _ _ 0 (by decide)) dX2_feed_177 ?_
      refine zcw (f2 := zPut f b (zHut w cy b γ (upd (upd (upd (upd (upd (hFs3 σ j) (55 + 6 * j + 5) (((hFs3 σ j) (55 + 6 * j + 5)) + 1)) 12 (((upd (hFs3 σ j) (55 + 6 * j + 5) (((hFs3 σ j) (55 + 6 * j + 5)) + 1)) 12) + 1)) (55 + 6 * j + 4) (((upd (upd (hFs3 σ j) (55 + 6 * j + 5) (((hFs3 σ j) (55 + 6 * j + 5)) + 1)) 12 (((upd (hFs3 σ j) (55 + 6 * j + 5) (((hFs3 σ j) (55 + 6 * j + 5)) + 1)) 12) + 1)) (55 + 6 * j + 4)) + (1 * ((upd (upd (hFs3 σ j) (55 + 6 * j + 5) (((hFs3 σ j) (55 + 6 * j + 5)) + 1)) 12 (((upd (hFs3 σ j) (55 + 6 * j + 5) (((hFs3 σ j) (55 + 6 * j + 5)) + 1)) 12) + 1)) (55 + 6 * j + 1))))) 13 (((upd (upd (upd (hFs3 σ j) (55 + 6 * j + 5) (((hFs3 σ j) (55 + 6 * j + 5)) + 1)) 12 (((upd (hFs3 σ j) (55 + 6 * j + 5) (((hFs3 σ j) (55 + 6 * j + 5)) + 1)) 12) + 1)) (55 + 6 * j + 4) (((upd (upd (hFs3 σ j) (55 + 6 * j + 5) (((hFs3 σ j) (55 + 6 * j + 5)) + 1)) 12 (((upd (hFs3 σ j) (55 + 6 * j + 5) (((hFs3 σ j) (55 + 6 * j + 5)) + 1)) 12) + 1)) (55 + 6 * j + 4)) + (1 * ((upd (upd (hFs3 σ j) (55 + 6 * j + 5) (((hFs3 σ j) (55 + 6 * j + 5)) + 1)) 12 (((upd (hFs3 σ j) (55 + 6 * j + 5) (((hFs3 σ j) (55 + 6 * j + 5)) + 1)) 12) + 1)) (55 + 6 * j + 1))))) 13) + (1 * ((upd (upd (hFs3 σ j) (55 + 6 * j + 5) (((hFs3 σ j) (55 + 6 * j + 5)) + 1)) 12 (((upd (hFs3 σ j) (55 + 6 * j + 5) (((hFs3 σ j) (55 + 6 * j + 5)) + 1)) 12) + 1)) (55 + 6 * j + 1))))) 5 (((upd (upd (upd (upd (hFs3 σ j) (55 + 6 * j + 5) (((hFs3 σ j) (55 + 6 * j + 5)) + 1)) 12 (((upd (hFs3 σ j) (55 + 6 * j + 5) (((hFs3 σ j) (55 + 6 * j + 5)) + 1)) 12) + 1)) (55 + 6 * j + 4) (((upd (upd (hFs3 σ j) (55 + 6 * j + 5) (((hFs3 σ j) (55 + 6 * j + 5)) + 1)) 12 (((upd (hFs3 σ j) (55 + 6 * j + 5) (((hFs3 σ j) (55 + 6 * j + 5)) + 1)) 12) + 1)) (55 + 6 * j + 4)) + (1 * ((upd (upd (hFs3 σ j) (55 + 6 * j + 5) (((hFs3 σ j) (55 + 6 * j + 5)) + 1)) 12 (((upd (hFs3 σ j) (55 + 6 * j + 5) (((hFs3 σ j) (55 + 6 * j + 5)) + 1)) 12) + 1)) (55 + 6 * j + 1))))) 13 (((upd (upd (upd (hFs3 σ j) (55 + 6 * j + 5) (((hFs3 σ j) (55 + 6 * j + 5)) + 1)) 12 (((upd (hFs3 σ j) (55 + 6 * j + 5) (((hFs3 σ j) (55 + 6 * j + 5)) + 1)) 12) + 1)) (55 + 6 * j + 4) (((upd (upd (hFs3 σ j) (55 + 6 * j + 5) (((hFs3 σ j) (55 + 6 * j + 5)) + 1)) 12 (((upd (hFs3 σ j) (55 + 6 * j + 5) (((hFs3 σ j) (55 + 6 * j + 5)) + 1)) 12) + 1)) (55 + 6 * j + 4)) + (1 * ((upd (upd (hFs3 σ j) (55 + 6 * j + 5) (((hFs3 σ j) (55 + 6 * j + 5)) + 1)) 12 (((upd (hFs3 σ j) (55 + 6 * j + 5) (((hFs3 σ j) (55 + 6 * j + 5)) + 1)) 12) + 1)) (55 + 6 * j + 1))))) 13) + (1 * ((upd (upd (hFs3 σ j) (55 + 6 * j + 5) (((hFs3 σ j) (55 + 6 * j + 5)) + 1)) 12 (((upd (hFs3 σ j) (55 + 6 * j + 5) (((hFs3 σ j) (55 + 6 * j + 5)) + 1)) 12) + 1)) (55 + 6 * j + 1))))) 5) + (1 * ((upd (upd (hFs3 σ j) (55 + 6 * j + 5) (((hFs3 σ j) (55 + 6 * j + 5)) + 1)) 12 (((upd (hFs3 σ j) (55 + 6 * j + 5) (((hFs3 σ j) (55 + 6 * j + 5)) + 1)) 12) + 1)) (55 + 6 * j + 1))))))) (zu_ledger (i := 0) (by decide)) ?_
      exact zret_v E rfl dX2_feed_180 (by simp only [hFeed, hFpay, hFs4, if_neg h2])
  refine zr_iload X 2 dX2_feed_87 rfl ?_
  refine zr_if_ne X (tgt := 96) dX2_feed_89 (by decide) (fun h3 => ?_) (fun h4 => ?_)
  · refine zr_iconst X (v := 2) dX2_feed_96 (by decide) ?_
    refine zr_loc X (ls' := [(0, .ref (w.2 (b))), (1, .ref (w.2 (b + (11 + j)))), (2, .int (hFwant σ j)), (3, .int (hFwhole σ j)), (4, .int (hFlack σ j)), (5, .int (hFst σ j)), (6, .int (hFsoup σ j))]) [5, 6, 4, 3, 2, 1, 0] rfl ?_
    exact zjoin rfl rfl (by simp only [hFeed, hFpay, hFs4, if_neg h3, hFfare]) J97
  · refine zr_iconst X (v := 3) dX2_feed_92 (by decide) ?_
    refine zr_goto X (tgt := 97) dX2_feed_93 (by decide) ?_
    refine zr_loc X (ls' := [(0, .ref (w.2 (b))), (1, .ref (w.2 (b + (11 + j)))), (2, .int (hFwant σ j)), (3, .int (hFwhole σ j)), (4, .int (hFlack σ j)), (5, .int (hFst σ j)), (6, .int (hFsoup σ j))]) [5, 6, 4, 3, 2, 1, 0] rfl ?_
    exact zjoin rfl rfl (by simp only [hFeed, hFpay, hFs4, if_pos h4, hFfare]) J97
end
