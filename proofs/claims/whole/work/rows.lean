section
-- ===== PART A: goes FIRST, ahead of the names: the tables' words, and 'selects' of the private methods out of them =====
/-- a private method of a class that the tables say can be made, by its rows of tables_1 -/
def lw_okq (q : MethodName × Nat) : Prop := (q.1.cls ≠ "java/lang/invoke/MethodHandle" ∧ q.1.cls ≠ "java/lang/invoke/VarHandle") ∧ Cond.instantiable q.1.cls q.2 ∈ tables_1 ∧ Cond.privateMethod q.1 ∈ tables_1 ∧ Cond.instanceMethod q.1 ∈ tables_1
theorem lw_p0 : lw_okq (⟨"LayeredPage$Layer", "indexOf", "(II)I"⟩, 6) := ⟨⟨by decide +kernel, by decide +kernel⟩, List.mem_of_getElem? (i := 134) (by decide +kernel), List.mem_of_getElem? (i := 294) (by decide +kernel), List.mem_of_getElem? (i := 295) (by decide +kernel)⟩
theorem lw_p1 : lw_okq (⟨"LayeredPage$DocumentWriter", "writeShape", "(LLayeredPage$Page;ILLayeredPage$Octets;)V"⟩, 1) := ⟨⟨by decide +kernel, by decide +kernel⟩, List.mem_of_getElem? (i := 43) (by decide +kernel), List.mem_of_getElem? (i := 334) (by decide +kernel), List.mem_of_getElem? (i := 335) (by decide +kernel)⟩
theorem lw_p2 : lw_okq (⟨"LayeredPage$DocumentWriter", "writePlacings", "(LLayeredPage$Page;LLayeredPage$Octets;)V"⟩, 1) := ⟨⟨by decide +kernel, by decide +kernel⟩, List.mem_of_getElem? (i := 43) (by decide +kernel), List.mem_of_getElem? (i := 413) (by decide +kernel), List.mem_of_getElem? (i := 414) (by decide +kernel)⟩
theorem lw_p3 : lw_okq (⟨"LayeredPage$DocumentWriter", "writeLayer", "(ILLayeredPage$Layer;ILLayeredPage$Octets;)V"⟩, 1) := ⟨⟨by decide +kernel, by decide +kernel⟩, List.mem_of_getElem? (i := 43) (by decide +kernel), List.mem_of_getElem? (i := 417) (by decide +kernel), List.mem_of_getElem? (i := 418) (by decide +kernel)⟩
theorem lw_p4 : lw_okq (⟨"LayeredPage$Layer", "liftLine", "(III)V"⟩, 6) := ⟨⟨by decide +kernel, by decide +kernel⟩, List.mem_of_getElem? (i := 134) (by decide +kernel), List.mem_of_getElem? (i := 428) (by decide +kernel), List.mem_of_getElem? (i := 429) (by decide +kernel)⟩
theorem lw_p5 : lw_okq (⟨"LayeredPage$Layer", "codePlaneBit", "(IILLayeredPage$Coder;)V"⟩, 6) := ⟨⟨by decide +kernel, by decide +kernel⟩, List.mem_of_getElem? (i := 134) (by decide +kernel), List.mem_of_getElem? (i := 436) (by decide +kernel), List.mem_of_getElem? (i := 437) (by decide +kernel)⟩
theorem lw_p6 : lw_okq (⟨"LayeredPage$Layer", "begunNeighbours", "(I)I"⟩, 6) := ⟨⟨by decide +kernel, by decide +kernel⟩, List.mem_of_getElem? (i := 134) (by decide +kernel), List.mem_of_getElem? (i := 444) (by decide +kernel), List.mem_of_getElem? (i := 445) (by decide +kernel)⟩
theorem lw_p7 : lw_okq (⟨"LayeredPage$DocumentReader", "readShape", "(LLayeredPage$Octets;IILLayeredPage$Page;)I"⟩, 1) := ⟨⟨by decide +kernel, by decide +kernel⟩, List.mem_of_getElem? (i := 91) (by decide +kernel), List.mem_of_getElem? (i := 485) (by decide +kernel), List.mem_of_getElem? (i := 486) (by decide +kernel)⟩
theorem lw_p8 : lw_okq (⟨"LayeredPage$DocumentReader", "readPlacings", "(LLayeredPage$Octets;IILLayeredPage$Page;)I"⟩, 1) := ⟨⟨by decide +kernel, by decide +kernel⟩, List.mem_of_getElem? (i := 91) (by decide +kernel), List.mem_of_getElem? (i := 501) (by decide +kernel), List.mem_of_getElem? (i := 502) (by decide +kernel)⟩
theorem lw_p9 : lw_okq (⟨"LayeredPage$DocumentReader", "readLayer", "(LLayeredPage$Octets;IILLayeredPage$Layer;)I"⟩, 1) := ⟨⟨by decide +kernel, by decide +kernel⟩, List.mem_of_getElem? (i := 91) (by decide +kernel), List.mem_of_getElem? (i := 507) (by decide +kernel), List.mem_of_getElem? (i := 508) (by decide +kernel)⟩
theorem lw_p10 : lw_okq (⟨"LayeredPage$Layer", "undoLine", "(III)V"⟩, 6) := ⟨⟨by decide +kernel, by decide +kernel⟩, List.mem_of_getElem? (i := 134) (by decide +kernel), List.mem_of_getElem? (i := 516) (by decide +kernel), List.mem_of_getElem? (i := 517) (by decide +kernel)⟩
theorem lw_p11 : lw_okq (⟨"LayeredPage", "pictureLayer", "(I)LLayeredPage$Layer;"⟩, 7) := ⟨⟨by decide +kernel, by decide +kernel⟩, List.mem_of_getElem? (i := 16) (by decide +kernel), List.mem_of_getElem? (i := 543) (by decide +kernel), List.mem_of_getElem? (i := 544) (by decide +kernel)⟩
theorem lw_p12 : lw_okq (⟨"LayeredPageModel", "put", "(I)V"⟩, 30) := ⟨⟨by decide +kernel, by decide +kernel⟩, List.mem_of_getElem? (i := 567) (by decide +kernel), List.mem_of_getElem? (i := 696) (by decide +kernel), List.mem_of_getElem? (i := 697) (by decide +kernel)⟩
theorem lw_p13 : lw_okq (⟨"LayeredPageModel", "putShape", "(I)V"⟩, 30) := ⟨⟨by decide +kernel, by decide +kernel⟩, List.mem_of_getElem? (i := 567) (by decide +kernel), List.mem_of_getElem? (i := 700) (by decide +kernel), List.mem_of_getElem? (i := 701) (by decide +kernel)⟩
theorem lw_p14 : lw_okq (⟨"LayeredPageModel", "open", "(I)I"⟩, 30) := ⟨⟨by decide +kernel, by decide +kernel⟩, List.mem_of_getElem? (i := 567) (by decide +kernel), List.mem_of_getElem? (i := 704) (by decide +kernel), List.mem_of_getElem? (i := 705) (by decide +kernel)⟩
theorem lw_p15 : lw_okq (⟨"LayeredPageModel", "begin", "(Z)V"⟩, 30) := ⟨⟨by decide +kernel, by decide +kernel⟩, List.mem_of_getElem? (i := 567) (by decide +kernel), List.mem_of_getElem? (i := 708) (by decide +kernel), List.mem_of_getElem? (i := 709) (by decide +kernel)⟩
def lw_privs_1 : List (MethodName × Nat) := [(⟨"LayeredPage$Layer", "indexOf", "(II)I"⟩, 6), (⟨"LayeredPage$DocumentWriter", "writeShape", "(LLayeredPage$Page;ILLayeredPage$Octets;)V"⟩, 1), (⟨"LayeredPage$DocumentWriter", "writePlacings", "(LLayeredPage$Page;LLayeredPage$Octets;)V"⟩, 1), (⟨"LayeredPage$DocumentWriter", "writeLayer", "(ILLayeredPage$Layer;ILLayeredPage$Octets;)V"⟩, 1), (⟨"LayeredPage$Layer", "liftLine", "(III)V"⟩, 6), (⟨"LayeredPage$Layer", "codePlaneBit", "(IILLayeredPage$Coder;)V"⟩, 6), (⟨"LayeredPage$Layer", "begunNeighbours", "(I)I"⟩, 6), (⟨"LayeredPage$DocumentReader", "readShape", "(LLayeredPage$Octets;IILLayeredPage$Page;)I"⟩, 1), (⟨"LayeredPage$DocumentReader", "readPlacings", "(LLayeredPage$Octets;IILLayeredPage$Page;)I"⟩, 1), (⟨"LayeredPage$DocumentReader", "readLayer", "(LLayeredPage$Octets;IILLayeredPage$Layer;)I"⟩, 1), (⟨"LayeredPage$Layer", "undoLine", "(III)V"⟩, 6), (⟨"LayeredPage", "pictureLayer", "(I)LLayeredPage$Layer;"⟩, 7), (⟨"LayeredPageModel", "put", "(I)V"⟩, 30), (⟨"LayeredPageModel", "putShape", "(I)V"⟩, 30), (⟨"LayeredPageModel", "open", "(I)I"⟩, 30), (⟨"LayeredPageModel", "begin", "(Z)V"⟩, 30)]
theorem lw_r1 : ∀ q ∈ lw_privs_1, lw_okq q := List.forall_mem_cons.mpr ⟨lw_p0, List.forall_mem_cons.mpr ⟨lw_p1, List.forall_mem_cons.mpr ⟨lw_p2, List.forall_mem_cons.mpr ⟨lw_p3, List.forall_mem_cons.mpr ⟨lw_p4, List.forall_mem_cons.mpr ⟨lw_p5, List.forall_mem_cons.mpr ⟨lw_p6, List.forall_mem_cons.mpr ⟨lw_p7, List.forall_mem_cons.mpr ⟨lw_p8, List.forall_mem_cons.mpr ⟨lw_p9, List.forall_mem_cons.mpr ⟨lw_p10, List.forall_mem_cons.mpr ⟨lw_p11, List.forall_mem_cons.mpr ⟨lw_p12, List.forall_mem_cons.mpr ⟨lw_p13, List.forall_mem_cons.mpr ⟨lw_p14, List.forall_mem_cons.mpr ⟨lw_p15, fun _ h => absurd h List.not_mem_nil⟩⟩⟩⟩⟩⟩⟩⟩⟩⟩⟩⟩⟩⟩⟩⟩
theorem lw_p16 : lw_okq (⟨"LayeredPageModel", "walk", "(JIIZJ)J"⟩, 30) := ⟨⟨by decide +kernel, by decide +kernel⟩, List.mem_of_getElem? (i := 567) (by decide +kernel), List.mem_of_getElem? (i := 713) (by decide +kernel), List.mem_of_getElem? (i := 714) (by decide +kernel)⟩
theorem lw_p17 : lw_okq (⟨"LayeredPageModel", "code", "(II)I"⟩, 30) := ⟨⟨by decide +kernel, by decide +kernel⟩, List.mem_of_getElem? (i := 567) (by decide +kernel), List.mem_of_getElem? (i := 717) (by decide +kernel), List.mem_of_getElem? (i := 718) (by decide +kernel)⟩
theorem lw_p18 : lw_okq (⟨"LayeredPageModel", "units", "()I"⟩, 30) := ⟨⟨by decide +kernel, by decide +kernel⟩, List.mem_of_getElem? (i := 567) (by decide +kernel), List.mem_of_getElem? (i := 721) (by decide +kernel), List.mem_of_getElem? (i := 722) (by decide +kernel)⟩
theorem lw_p19 : lw_okq (⟨"LayeredPageModel", "shift", "(II)V"⟩, 30) := ⟨⟨by decide +kernel, by decide +kernel⟩, List.mem_of_getElem? (i := 567) (by decide +kernel), List.mem_of_getElem? (i := 725) (by decide +kernel), List.mem_of_getElem? (i := 726) (by decide +kernel)⟩
theorem lw_p20 : lw_okq (⟨"LayeredPageModel", "putCode", "()V"⟩, 30) := ⟨⟨by decide +kernel, by decide +kernel⟩, List.mem_of_getElem? (i := 567) (by decide +kernel), List.mem_of_getElem? (i := 730) (by decide +kernel), List.mem_of_getElem? (i := 731) (by decide +kernel)⟩
theorem lw_p21 : lw_okq (⟨"LayeredPageModel", "close", "(I)V"⟩, 30) := ⟨⟨by decide +kernel, by decide +kernel⟩, List.mem_of_getElem? (i := 567) (by decide +kernel), List.mem_of_getElem? (i := 734) (by decide +kernel), List.mem_of_getElem? (i := 735) (by decide +kernel)⟩
theorem lw_p22 : lw_okq (⟨"LayeredPageModel", "putLayer", "(II)V"⟩, 30) := ⟨⟨by decide +kernel, by decide +kernel⟩, List.mem_of_getElem? (i := 567) (by decide +kernel), List.mem_of_getElem? (i := 738) (by decide +kernel), List.mem_of_getElem? (i := 739) (by decide +kernel)⟩
theorem lw_p23 : lw_okq (⟨"LayeredPageModel", "all", "(IZZ)V"⟩, 30) := ⟨⟨by decide +kernel, by decide +kernel⟩, List.mem_of_getElem? (i := 567) (by decide +kernel), List.mem_of_getElem? (i := 742) (by decide +kernel), List.mem_of_getElem? (i := 743) (by decide +kernel)⟩
theorem lw_p24 : lw_okq (⟨"LayeredPageModel", "lift", "(I)V"⟩, 30) := ⟨⟨by decide +kernel, by decide +kernel⟩, List.mem_of_getElem? (i := 567) (by decide +kernel), List.mem_of_getElem? (i := 746) (by decide +kernel), List.mem_of_getElem? (i := 747) (by decide +kernel)⟩
theorem lw_p25 : lw_okq (⟨"LayeredPageModel", "drop", "(I)V"⟩, 30) := ⟨⟨by decide +kernel, by decide +kernel⟩, List.mem_of_getElem? (i := 567) (by decide +kernel), List.mem_of_getElem? (i := 753) (by decide +kernel), List.mem_of_getElem? (i := 754) (by decide +kernel)⟩
theorem lw_p26 : lw_okq (⟨"LayeredPageModel", "planes", "(II)V"⟩, 30) := ⟨⟨by decide +kernel, by decide +kernel⟩, List.mem_of_getElem? (i := 567) (by decide +kernel), List.mem_of_getElem? (i := 757) (by decide +kernel), List.mem_of_getElem? (i := 758) (by decide +kernel)⟩
theorem lw_p27 : lw_okq (⟨"LayeredPageModel", "fault", "()I"⟩, 30) := ⟨⟨by decide +kernel, by decide +kernel⟩, List.mem_of_getElem? (i := 567) (by decide +kernel), List.mem_of_getElem? (i := 781) (by decide +kernel), List.mem_of_getElem? (i := 782) (by decide +kernel)⟩
theorem lw_p28 : lw_okq (⟨"LayeredPageModel", "chunkFault", "(I)I"⟩, 30) := ⟨⟨by decide +kernel, by decide +kernel⟩, List.mem_of_getElem? (i := 567) (by decide +kernel), List.mem_of_getElem? (i := 785) (by decide +kernel), List.mem_of_getElem? (i := 786) (by decide +kernel)⟩
theorem lw_p29 : lw_okq (⟨"LayeredPageModel", "chunkLength", "(I)I"⟩, 30) := ⟨⟨by decide +kernel, by decide +kernel⟩, List.mem_of_getElem? (i := 567) (by decide +kernel), List.mem_of_getElem? (i := 789) (by decide +kernel), List.mem_of_getElem? (i := 790) (by decide +kernel)⟩
theorem lw_p30 : lw_okq (⟨"LayeredPageModel", "before", "(II)I"⟩, 30) := ⟨⟨by decide +kernel, by decide +kernel⟩, List.mem_of_getElem? (i := 567) (by decide +kernel), List.mem_of_getElem? (i := 793) (by decide +kernel), List.mem_of_getElem? (i := 794) (by decide +kernel)⟩
theorem lw_p31 : lw_okq (⟨"LayeredPageModel", "placingsBefore", "(I)I"⟩, 30) := ⟨⟨by decide +kernel, by decide +kernel⟩, List.mem_of_getElem? (i := 567) (by decide +kernel), List.mem_of_getElem? (i := 797) (by decide +kernel), List.mem_of_getElem? (i := 798) (by decide +kernel)⟩
def lw_privs_2 : List (MethodName × Nat) := [(⟨"LayeredPageModel", "walk", "(JIIZJ)J"⟩, 30), (⟨"LayeredPageModel", "code", "(II)I"⟩, 30), (⟨"LayeredPageModel", "units", "()I"⟩, 30), (⟨"LayeredPageModel", "shift", "(II)V"⟩, 30), (⟨"LayeredPageModel", "putCode", "()V"⟩, 30), (⟨"LayeredPageModel", "close", "(I)V"⟩, 30), (⟨"LayeredPageModel", "putLayer", "(II)V"⟩, 30), (⟨"LayeredPageModel", "all", "(IZZ)V"⟩, 30), (⟨"LayeredPageModel", "lift", "(I)V"⟩, 30), (⟨"LayeredPageModel", "drop", "(I)V"⟩, 30), (⟨"LayeredPageModel", "planes", "(II)V"⟩, 30), (⟨"LayeredPageModel", "fault", "()I"⟩, 30), (⟨"LayeredPageModel", "chunkFault", "(I)I"⟩, 30), (⟨"LayeredPageModel", "chunkLength", "(I)I"⟩, 30), (⟨"LayeredPageModel", "before", "(II)I"⟩, 30), (⟨"LayeredPageModel", "placingsBefore", "(I)I"⟩, 30)]
theorem lw_r2 : ∀ q ∈ lw_privs_2, lw_okq q := List.forall_mem_cons.mpr ⟨lw_p16, List.forall_mem_cons.mpr ⟨lw_p17, List.forall_mem_cons.mpr ⟨lw_p18, List.forall_mem_cons.mpr ⟨lw_p19, List.forall_mem_cons.mpr ⟨lw_p20, List.forall_mem_cons.mpr ⟨lw_p21, List.forall_mem_cons.mpr ⟨lw_p22, List.forall_mem_cons.mpr ⟨lw_p23, List.forall_mem_cons.mpr ⟨lw_p24, List.forall_mem_cons.mpr ⟨lw_p25, List.forall_mem_cons.mpr ⟨lw_p26, List.forall_mem_cons.mpr ⟨lw_p27, List.forall_mem_cons.mpr ⟨lw_p28, List.forall_mem_cons.mpr ⟨lw_p29, List.forall_mem_cons.mpr ⟨lw_p30, List.forall_mem_cons.mpr ⟨lw_p31, fun _ h => absurd h List.not_mem_nil⟩⟩⟩⟩⟩⟩⟩⟩⟩⟩⟩⟩⟩⟩⟩⟩
theorem lw_p32 : lw_okq (⟨"LayeredPageModel", "takeShape", "(I)V"⟩, 30) := ⟨⟨by decide +kernel, by decide +kernel⟩, List.mem_of_getElem? (i := 567) (by decide +kernel), List.mem_of_getElem? (i := 801) (by decide +kernel), List.mem_of_getElem? (i := 802) (by decide +kernel)⟩
theorem lw_p33 : lw_okq (⟨"LayeredPageModel", "load", "(II)V"⟩, 30) := ⟨⟨by decide +kernel, by decide +kernel⟩, List.mem_of_getElem? (i := 567) (by decide +kernel), List.mem_of_getElem? (i := 805) (by decide +kernel), List.mem_of_getElem? (i := 806) (by decide +kernel)⟩
theorem lw_p34 : lw_okq (⟨"LayeredPageModel", "takePlacings", "(I)V"⟩, 30) := ⟨⟨by decide +kernel, by decide +kernel⟩, List.mem_of_getElem? (i := 567) (by decide +kernel), List.mem_of_getElem? (i := 809) (by decide +kernel), List.mem_of_getElem? (i := 810) (by decide +kernel)⟩
theorem lw_p35 : lw_okq (⟨"LayeredPageModel", "takeLayer", "(II)V"⟩, 30) := ⟨⟨by decide +kernel, by decide +kernel⟩, List.mem_of_getElem? (i := 567) (by decide +kernel), List.mem_of_getElem? (i := 813) (by decide +kernel), List.mem_of_getElem? (i := 814) (by decide +kernel)⟩
theorem lw_p36 : lw_okq (⟨"LayeredPageModel", "noCell", "(III)Z"⟩, 30) := ⟨⟨by decide +kernel, by decide +kernel⟩, List.mem_of_getElem? (i := 567) (by decide +kernel), List.mem_of_getElem? (i := 825) (by decide +kernel), List.mem_of_getElem? (i := 826) (by decide +kernel)⟩
def lw_privs_3 : List (MethodName × Nat) := [(⟨"LayeredPageModel", "takeShape", "(I)V"⟩, 30), (⟨"LayeredPageModel", "load", "(II)V"⟩, 30), (⟨"LayeredPageModel", "takePlacings", "(I)V"⟩, 30), (⟨"LayeredPageModel", "takeLayer", "(II)V"⟩, 30), (⟨"LayeredPageModel", "noCell", "(III)Z"⟩, 30)]
theorem lw_r3 : ∀ q ∈ lw_privs_3, lw_okq q := List.forall_mem_cons.mpr ⟨lw_p32, List.forall_mem_cons.mpr ⟨lw_p33, List.forall_mem_cons.mpr ⟨lw_p34, List.forall_mem_cons.mpr ⟨lw_p35, List.forall_mem_cons.mpr ⟨lw_p36, fun _ h => absurd h List.not_mem_nil⟩⟩⟩⟩⟩
def lw_privs : List (MethodName × Nat) := lw_privs_1 ++ (lw_privs_2 ++ (lw_privs_3))
def lw_tbl : List Cond := k2_sels lw_privs ++ tables_1
theorem lw_privs_ok : ∀ q ∈ lw_privs, lw_okq q := by
  show ∀ q ∈ lw_privs_1 ++ (lw_privs_2 ++ (lw_privs_3)), lw_okq q
  exact List.forall_mem_append.mpr ⟨lw_r1, List.forall_mem_append.mpr ⟨lw_r2, lw_r3⟩⟩
-- ===== end of PART A; then your names; then what follows =====
end
section
/-! names: classes, fields, methods -/
def nmShape : String := "LayeredPage$Shape"
def RCr : String := "LayeredPage$CodeReader"
def TCr : u_T := fun k => match k with
  | 0 => ("LayeredPage$CodeReader", "row", "[I", false)
  | 1 => ("LayeredPage$CodeReader", "at", "I", false)
  | 2 => ("LayeredPage$CodeReader", "end", "I", false)
  | 3 => ("LayeredPage$CodeReader", "digit", "I", false)
  | 4 => ("LayeredPage$CodeReader", "rest", "I", false)
  | 5 => ("LayeredPage$Coder", "zeros", "[I", true)
  | 6 => ("LayeredPage$Coder", "ones", "[I", true)
  | _ => ("LayeredPage$Coder", "width", "I", false)
def tyCr : Nat → FieldType := fun k => match k with
  | 0 => .array .int
  | 1 => .int
  | 2 => .int
  | 3 => .int
  | 4 => .int
  | 5 => .array .int
  | 6 => .array .int
  | _ => .int
theorem nmCr : ∀ a, a < 8 → ∀ b, b < 8 → a ≠ b → (TCr a).2.1 ≠ (TCr b).2.1 := by decide +kernel
theorem okCr : ∀ k, k < 8 → parseFieldDescriptor (TCr k).2.2.1 = some (tyCr k) := by decide +kernel
def RCw : String := "LayeredPage$CodeWriter"
def TCw : u_T := fun k => match k with
  | 0 => ("LayeredPage$CodeWriter", "row", "[I", false)
  | 1 => ("LayeredPage$CodeWriter", "start", "I", false)
  | 2 => ("LayeredPage$CodeWriter", "scale", "I", false)
  | 3 => ("LayeredPage$Coder", "zeros", "[I", true)
  | 4 => ("LayeredPage$Coder", "ones", "[I", true)
  | _ => ("LayeredPage$Coder", "width", "I", false)
def tyCw : Nat → FieldType := fun k => match k with
  | 0 => .array .int
  | 1 => .int
  | 2 => .int
  | 3 => .array .int
  | 4 => .array .int
  | _ => .int
theorem nmCw : ∀ a, a < 6 → ∀ b, b < 6 → a ≠ b → (TCw a).2.1 ≠ (TCw b).2.1 := by decide +kernel
theorem okCw : ∀ k, k < 6 → parseFieldDescriptor (TCw k).2.2.1 = some (tyCw k) := by decide +kernel
def RDr : String := "LayeredPage$DocumentReader"
def TDr : u_T := fun k => match k with
  | _ => ("LayeredPage$DocumentReader", "coder", "LLayeredPage$CodeReader;", true)
def tyDr : Nat → FieldType := fun k => match k with
  | _ => .object "LayeredPage$CodeReader"
theorem nmDr : ∀ a, a < 1 → ∀ b, b < 1 → a ≠ b → (TDr a).2.1 ≠ (TDr b).2.1 := by decide +kernel
theorem okDr : ∀ k, k < 1 → parseFieldDescriptor (TDr k).2.2.1 = some (tyDr k) := by decide +kernel
def RDw : String := "LayeredPage$DocumentWriter"
def TDw : u_T := fun k => match k with
  | _ => ("LayeredPage$DocumentWriter", "coder", "LLayeredPage$CodeWriter;", true)
def tyDw : Nat → FieldType := fun k => match k with
  | _ => .object "LayeredPage$CodeWriter"
theorem nmDw : ∀ a, a < 1 → ∀ b, b < 1 → a ≠ b → (TDw a).2.1 ≠ (TDw b).2.1 := by decide +kernel
theorem okDw : ∀ k, k < 1 → parseFieldDescriptor (TDw k).2.2.1 = some (tyDw k) := by decide +kernel
def RLy : String := "LayeredPage$Layer"
def TLy : u_T := fun k => match k with
  | 0 => ("LayeredPage$Layer", "size", "I", true)
  | 1 => ("LayeredPage$Layer", "cells", "[I", true)
  | 2 => ("LayeredPage$Layer", "coefficients", "[I", true)
  | 3 => ("LayeredPage$Layer", "coded", "[I", true)
  | 4 => ("LayeredPage$Layer", "line", "[I", true)
  | _ => ("LayeredPage$Layer", "came", "Z", false)
def tyLy : Nat → FieldType := fun k => match k with
  | 0 => .int
  | 1 => .array .int
  | 2 => .array .int
  | 3 => .array .int
  | 4 => .array .int
  | _ => .boolean
theorem nmLy : ∀ a, a < 6 → ∀ b, b < 6 → a ≠ b → (TLy a).2.1 ≠ (TLy b).2.1 := by decide +kernel
theorem okLy : ∀ k, k < 6 → parseFieldDescriptor (TLy k).2.2.1 = some (tyLy k) := by decide +kernel
def ROct : String := "LayeredPage$Octets"
def TOct : u_T := fun k => match k with
  | 0 => ("LayeredPage$Octets", "row", "[I", true)
  | _ => ("LayeredPage$Octets", "count", "I", false)
def tyOct : Nat → FieldType := fun k => match k with
  | 0 => .array .int
  | _ => .int
theorem nmOct : ∀ a, a < 2 → ∀ b, b < 2 → a ≠ b → (TOct a).2.1 ≠ (TOct b).2.1 := by decide +kernel
theorem okOct : ∀ k, k < 2 → parseFieldDescriptor (TOct k).2.2.1 = some (tyOct k) := by decide +kernel
def RPg : String := "LayeredPage$Page"
def TPg : u_T := fun k => match k with
  | 0 => ("LayeredPage$Page", "shapes", "[LLayeredPage$Shape;", true)
  | 1 => ("LayeredPage$Page", "shapeCount", "I", false)
  | 2 => ("LayeredPage$Page", "placedShapes", "[I", true)
  | 3 => ("LayeredPage$Page", "spots", "[I", true)
  | 4 => ("LayeredPage$Page", "placingCount", "I", false)
  | 5 => ("LayeredPage$Page", "ground", "LLayeredPage$Layer;", true)
  | _ => ("LayeredPage$Page", "ink", "LLayeredPage$Layer;", true)
def tyPg : Nat → FieldType := fun k => match k with
  | 0 => .array (.object "LayeredPage$Shape")
  | 1 => .int
  | 2 => .array .int
  | 3 => .array .int
  | 4 => .int
  | 5 => .object "LayeredPage$Layer"
  | _ => .object "LayeredPage$Layer"
theorem nmPg : ∀ a, a < 7 → ∀ b, b < 7 → a ≠ b → (TPg a).2.1 ≠ (TPg b).2.1 := by decide +kernel
theorem okPg : ∀ k, k < 7 → parseFieldDescriptor (TPg k).2.2.1 = some (tyPg k) := by decide +kernel
def RSh : String := "LayeredPage$Shape"
def TSh : u_T := fun k => match k with
  | 0 => ("LayeredPage$Shape", "bits", "J", false)
  | 1 => ("LayeredPage$Shape", "width", "I", false)
  | 2 => ("LayeredPage$Shape", "height", "I", false)
  | _ => ("LayeredPage$Shape", "base", "I", false)
def tySh : Nat → FieldType := fun k => match k with
  | 0 => .long
  | 1 => .int
  | 2 => .int
  | _ => .int
theorem nmSh : ∀ a, a < 4 → ∀ b, b < 4 → a ≠ b → (TSh a).2.1 ≠ (TSh b).2.1 := by decide +kernel
theorem okSh : ∀ k, k < 4 → parseFieldDescriptor (TSh k).2.2.1 = some (tySh k) := by decide +kernel
def RLP : String := "LayeredPage"
def TLP : u_T := fun k => match k with
  | 0 => ("LayeredPage", "document", "LLayeredPage$Octets;", true)
  | 1 => ("LayeredPage", "writer", "LLayeredPage$DocumentWriter;", true)
  | 2 => ("LayeredPage", "reader", "LLayeredPage$DocumentReader;", true)
  | 3 => ("LayeredPage", "draft", "LLayeredPage$Page;", true)
  | 4 => ("LayeredPage", "hasPicture", "Z", false)
  | 5 => ("LayeredPage", "picture", "LLayeredPage$Page;", false)
  | _ => ("LayeredPage", "spare", "LLayeredPage$Page;", false)
def tyLP : Nat → FieldType := fun k => match k with
  | 0 => .object "LayeredPage$Octets"
  | 1 => .object "LayeredPage$DocumentWriter"
  | 2 => .object "LayeredPage$DocumentReader"
  | 3 => .object "LayeredPage$Page"
  | 4 => .boolean
  | 5 => .object "LayeredPage$Page"
  | _ => .object "LayeredPage$Page"
theorem nmLP : ∀ a, a < 7 → ∀ b, b < 7 → a ≠ b → (TLP a).2.1 ≠ (TLP b).2.1 := by decide +kernel
theorem okLP : ∀ k, k < 7 → parseFieldDescriptor (TLP k).2.2.1 = some (tyLP k) := by decide +kernel
def RMd : String := "LayeredPageModel"
def TMd : u_T := fun k => match k with
  | 0 => ("LayeredPageModel", "bits", "[J", true)
  | 1 => ("LayeredPageModel", "wide", "[I", true)
  | 2 => ("LayeredPageModel", "high", "[I", true)
  | 3 => ("LayeredPageModel", "base", "[I", true)
  | 4 => ("LayeredPageModel", "drawn", "I", false)
  | 5 => ("LayeredPageModel", "placeShape", "[I", true)
  | 6 => ("LayeredPageModel", "placeAt", "[I", true)
  | 7 => ("LayeredPageModel", "placed", "I", false)
  | 8 => ("LayeredPageModel", "cells", "[I", true)
  | 9 => ("LayeredPageModel", "doc", "[I", true)
  | 10 => ("LayeredPageModel", "len", "I", false)
  | 11 => ("LayeredPageModel", "there", "Z", false)
  | 12 => ("LayeredPageModel", "seen", "[J", true)
  | 13 => ("LayeredPageModel", "seenShapes", "I", false)
  | 14 => ("LayeredPageModel", "putShape", "[I", true)
  | 15 => ("LayeredPageModel", "putAt", "[I", true)
  | 16 => ("LayeredPageModel", "puts", "I", false)
  | 17 => ("LayeredPageModel", "coef", "[I", true)
  | 18 => ("LayeredPageModel", "undone", "[I", true)
  | 19 => ("LayeredPageModel", "reading", "Z", false)
  | 20 => ("LayeredPageModel", "zeros", "[I", true)
  | 21 => ("LayeredPageModel", "ones", "[I", true)
  | 22 => ("LayeredPageModel", "width", "I", false)
  | 23 => ("LayeredPageModel", "scale", "I", false)
  | 24 => ("LayeredPageModel", "digit", "[I", true)
  | 25 => ("LayeredPageModel", "grid", "[I", true)
  | 26 => ("LayeredPageModel", "row", "[I", true)
  | 27 => ("LayeredPageModel", "next", "[I", true)
  | 28 => ("LayeredPageModel", "prefix", "[I", true)
  | _ => ("LayeredPageModel", "minus", "[Z", true)
def tyMd : Nat → FieldType := fun k => match k with
  | 0 => .array .long
  | 1 => .array .int
  | 2 => .array .int
  | 3 => .array .int
  | 4 => .int
  | 5 => .array .int
  | 6 => .array .int
  | 7 => .int
  | 8 => .array .int
  | 9 => .array .int
  | 10 => .int
  | 11 => .boolean
  | 12 => .array .long
  | 13 => .int
  | 14 => .array .int
  | 15 => .array .int
  | 16 => .int
  | 17 => .array .int
  | 18 => .array .int
  | 19 => .boolean
  | 20 => .array .int
  | 21 => .array .int
  | 22 => .int
  | 23 => .int
  | 24 => .array .int
  | 25 => .array .int
  | 26 => .array .int
  | 27 => .array .int
  | 28 => .array .int
  | _ => .array .boolean
theorem nmMd : ∀ a, a < 30 → ∀ b, b < 30 → a ≠ b → (TMd a).2.1 ≠ (TMd b).2.1 := by decide +kernel
theorem okMd : ∀ k, k < 30 → parseFieldDescriptor (TMd k).2.2.1 = some (tyMd k) := by decide +kernel
abbrev vwCl : List vw_C := [(RCr, TCr, 8), (RCw, TCw, 6), (RDr, TDr, 1), (RDw, TDw, 1), (RLy, TLy, 6), (ROct, TOct, 2), (RPg, TPg, 7), (RSh, TSh, 4), (RLP, TLP, 7), (RMd, TMd, 30)]
def RCd : String := "LayeredPage$Coder"
def RAr : String := "java/util/Arrays"
abbrev b_LP_init : ByteArray := prog_1_method_1_code
def y_LP_init : MethodName := ⟨"LayeredPage", "<init>", "()V"⟩
abbrev b_Oct_init : ByteArray := prog_8_method_1_code
def y_Oct_init : MethodName := ⟨"LayeredPage$Octets", "<init>", "()V"⟩
abbrev b_Dw_init : ByteArray := prog_6_method_1_code
def y_Dw_init : MethodName := ⟨"LayeredPage$DocumentWriter", "<init>", "()V"⟩
abbrev b_Cw_init : ByteArray := prog_3_method_1_code
def y_Cw_init : MethodName := ⟨"LayeredPage$CodeWriter", "<init>", "()V"⟩
abbrev b_Cd_init : ByteArray := prog_4_method_1_code
def y_Cd_init : MethodName := ⟨"LayeredPage$Coder", "<init>", "()V"⟩
abbrev b_Cd_restart : ByteArray := prog_4_method_4_code
def y_Cd_restart : MethodName := ⟨"LayeredPage$Coder", "restart", "()V"⟩
abbrev b_Ar_fill : ByteArray := prog_15_method_103_code
def y_Ar_fill : MethodName := ⟨"java/util/Arrays", "fill", "([II)V"⟩
abbrev b_Dr_init : ByteArray := prog_5_method_1_code
def y_Dr_init : MethodName := ⟨"LayeredPage$DocumentReader", "<init>", "()V"⟩
abbrev b_Cr_init : ByteArray := prog_2_method_1_code
def y_Cr_init : MethodName := ⟨"LayeredPage$CodeReader", "<init>", "()V"⟩
abbrev b_Pg_init : ByteArray := prog_9_method_1_code
def y_Pg_init : MethodName := ⟨"LayeredPage$Page", "<init>", "()V"⟩
abbrev b_Ly_init : ByteArray := prog_7_method_1_code
def y_Ly_init : MethodName := ⟨"LayeredPage$Layer", "<init>", "(I)V"⟩
abbrev b_Sh_init : ByteArray := prog_10_method_1_code
def y_Sh_init : MethodName := ⟨"LayeredPage$Shape", "<init>", "()V"⟩
abbrev b_LP_shape : ByteArray := prog_1_method_2_code
def y_LP_shape : MethodName := ⟨"LayeredPage", "shape", "(JIII)I"⟩
abbrev b_Pg_hasShape : ByteArray := prog_9_method_3_code
def y_Pg_hasShape : MethodName := ⟨"LayeredPage$Page", "hasShape", "(I)Z"⟩
abbrev b_LP_isShapeSide : ByteArray := prog_1_method_21_code
def y_LP_isShapeSide : MethodName := ⟨"LayeredPage", "isShapeSide", "(I)Z"⟩
abbrev b_LP_shapeMask : ByteArray := prog_1_method_22_code
def y_LP_shapeMask : MethodName := ⟨"LayeredPage", "shapeMask", "(II)J"⟩
abbrev b_Pg_addShape : ByteArray := prog_9_method_5_code
def y_Pg_addShape : MethodName := ⟨"LayeredPage$Page", "addShape", "(JIII)I"⟩
abbrev b_LP_place : ByteArray := prog_1_method_3_code
def y_LP_place : MethodName := ⟨"LayeredPage", "place", "(III)I"⟩
abbrev b_LP_isOnPage : ByteArray := prog_1_method_20_code
def y_LP_isOnPage : MethodName := ⟨"LayeredPage", "isOnPage", "(II)Z"⟩
abbrev b_Pg_addPlacing : ByteArray := prog_9_method_6_code
def y_Pg_addPlacing : MethodName := ⟨"LayeredPage$Page", "addPlacing", "(II)I"⟩
abbrev b_LP_paint : ByteArray := prog_1_method_4_code
def y_LP_paint : MethodName := ⟨"LayeredPage", "paint", "(IIJ)Z"⟩
abbrev b_Pg_layerOf : ByteArray := prog_9_method_4_code
def y_Pg_layerOf : MethodName := ⟨"LayeredPage$Page", "layerOf", "(I)LLayeredPage$Layer;"⟩
abbrev b_Ly_hasCell : ByteArray := prog_7_method_3_code
def y_Ly_hasCell : MethodName := ⟨"LayeredPage$Layer", "hasCell", "(II)Z"⟩
abbrev b_Ly_setRow : ByteArray := prog_7_method_7_code
def y_Ly_setRow : MethodName := ⟨"LayeredPage$Layer", "setRow", "(IJ)V"⟩
abbrev b_Ly_indexOf : ByteArray := prog_7_method_4_code
def y_Ly_indexOf : MethodName := ⟨"LayeredPage$Layer", "indexOf", "(II)I"⟩
abbrev b_LP_clear : ByteArray := prog_1_method_5_code
def y_LP_clear : MethodName := ⟨"LayeredPage", "clear", "()V"⟩
abbrev b_Pg_makeEmpty : ByteArray := prog_9_method_2_code
def y_Pg_makeEmpty : MethodName := ⟨"LayeredPage$Page", "makeEmpty", "()V"⟩
abbrev b_Ly_makeEmpty : ByteArray := prog_7_method_2_code
def y_Ly_makeEmpty : MethodName := ⟨"LayeredPage$Layer", "makeEmpty", "()V"⟩
abbrev b_LP_encode : ByteArray := prog_1_method_6_code
def y_LP_encode : MethodName := ⟨"LayeredPage", "encode", "(I)I"⟩
abbrev b_Dw_write : ByteArray := prog_6_method_2_code
def y_Dw_write : MethodName := ⟨"LayeredPage$DocumentWriter", "write", "(LLayeredPage$Page;ILLayeredPage$Octets;)V"⟩
abbrev b_Oct_keep : ByteArray := prog_8_method_5_code
def y_Oct_keep : MethodName := ⟨"LayeredPage$Octets", "keep", "(I)V"⟩
abbrev b_Oct_append : ByteArray := prog_8_method_4_code
def y_Oct_append : MethodName := ⟨"LayeredPage$Octets", "append", "(I)V"⟩
abbrev b_Oct_set : ByteArray := prog_8_method_3_code
def y_Oct_set : MethodName := ⟨"LayeredPage$Octets", "set", "(II)V"⟩
abbrev b_Dw_writeShape : ByteArray := prog_6_method_3_code
def y_Dw_writeShape : MethodName := ⟨"LayeredPage$DocumentWriter", "writeShape", "(LLayeredPage$Page;ILLayeredPage$Octets;)V"⟩
abbrev b_Oct_openChunk : ByteArray := prog_8_method_7_code
def y_Oct_openChunk : MethodName := ⟨"LayeredPage$Octets", "openChunk", "(I)I"⟩
abbrev b_Cw_begin : ByteArray := prog_3_method_2_code
def y_Cw_begin : MethodName := ⟨"LayeredPage$CodeWriter", "begin", "([II)V"⟩
abbrev b_Pg_codeShape : ByteArray := prog_9_method_8_code
def y_Pg_codeShape : MethodName := ⟨"LayeredPage$Page", "codeShape", "(ILLayeredPage$Coder;)V"⟩
abbrev b_Sh_contextAlone : ByteArray := prog_10_method_3_code
def y_Sh_contextAlone : MethodName := ⟨"LayeredPage$Shape", "contextAlone", "(II)I"⟩
abbrev b_Sh_bitAt : ByteArray := prog_10_method_2_code
def y_Sh_bitAt : MethodName := ⟨"LayeredPage$Shape", "bitAt", "(II)I"⟩
abbrev b_Sh_contextWith : ByteArray := prog_10_method_4_code
def y_Sh_contextWith : MethodName := ⟨"LayeredPage$Shape", "contextWith", "(LLayeredPage$Shape;II)I"⟩
abbrev b_Cd_code : ByteArray := prog_4_method_5_code
def y_Cd_code : MethodName := ⟨"LayeredPage$Coder", "code", "(II)I"⟩
abbrev b_Cr_choose : ByteArray := prog_2_method_3_code
def y_Cr_choose : MethodName := ⟨"LayeredPage$CodeReader", "choose", "(II)I"⟩
abbrev b_Cw_choose : ByteArray := prog_3_method_3_code
def y_Cw_choose : MethodName := ⟨"LayeredPage$CodeWriter", "choose", "(II)I"⟩
abbrev b_Cd_tally : ByteArray := prog_4_method_6_code
def y_Cd_tally : MethodName := ⟨"LayeredPage$Coder", "tally", "(II)V"⟩
abbrev b_Cr_shift : ByteArray := prog_2_method_4_code
def y_Cr_shift : MethodName := ⟨"LayeredPage$CodeReader", "shift", "()V"⟩
abbrev b_Cw_shift : ByteArray := prog_3_method_4_code
def y_Cw_shift : MethodName := ⟨"LayeredPage$CodeWriter", "shift", "()V"⟩
abbrev b_Cw_size : ByteArray := prog_3_method_5_code
def y_Cw_size : MethodName := ⟨"LayeredPage$CodeWriter", "size", "()I"⟩
abbrev b_Oct_take : ByteArray := prog_8_method_6_code
def y_Oct_take : MethodName := ⟨"LayeredPage$Octets", "take", "(I)V"⟩
abbrev b_Oct_closeChunk : ByteArray := prog_8_method_8_code
def y_Oct_closeChunk : MethodName := ⟨"LayeredPage$Octets", "closeChunk", "(I)V"⟩
abbrev b_Dw_writePlacings : ByteArray := prog_6_method_4_code
def y_Dw_writePlacings : MethodName := ⟨"LayeredPage$DocumentWriter", "writePlacings", "(LLayeredPage$Page;LLayeredPage$Octets;)V"⟩
abbrev b_Dw_writeLayer : ByteArray := prog_6_method_5_code
def y_Dw_writeLayer : MethodName := ⟨"LayeredPage$DocumentWriter", "writeLayer", "(ILLayeredPage$Layer;ILLayeredPage$Octets;)V"⟩
abbrev b_Ly_liftCells : ByteArray := prog_7_method_8_code
def y_Ly_liftCells : MethodName := ⟨"LayeredPage$Layer", "liftCells", "()V"⟩
abbrev b_Ly_liftLine : ByteArray := prog_7_method_9_code
def y_Ly_liftLine : MethodName := ⟨"LayeredPage$Layer", "liftLine", "(III)V"⟩
abbrev b_Ly_codeCoefficients : ByteArray := prog_7_method_12_code
def y_Ly_codeCoefficients : MethodName := ⟨"LayeredPage$Layer", "codeCoefficients", "(ILLayeredPage$Coder;)V"⟩
abbrev b_Ly_codePlaneBit : ByteArray := prog_7_method_13_code
def y_Ly_codePlaneBit : MethodName := ⟨"LayeredPage$Layer", "codePlaneBit", "(IILLayeredPage$Coder;)V"⟩
abbrev b_Ly_begunNeighbours : ByteArray := prog_7_method_14_code
def y_Ly_begunNeighbours : MethodName := ⟨"LayeredPage$Layer", "begunNeighbours", "(I)I"⟩
abbrev b_LP_length : ByteArray := prog_1_method_7_code
def y_LP_length : MethodName := ⟨"LayeredPage", "length", "()I"⟩
abbrev b_LP_octet : ByteArray := prog_1_method_8_code
def y_LP_octet : MethodName := ⟨"LayeredPage", "octet", "(I)I"⟩
abbrev b_Oct_at : ByteArray := prog_8_method_2_code
def y_Oct_at : MethodName := ⟨"LayeredPage$Octets", "at", "(I)I"⟩
abbrev b_LP_alter : ByteArray := prog_1_method_9_code
def y_LP_alter : MethodName := ⟨"LayeredPage", "alter", "(II)Z"⟩
abbrev b_LP_cut : ByteArray := prog_1_method_10_code
def y_LP_cut : MethodName := ⟨"LayeredPage", "cut", "(I)Z"⟩
abbrev b_LP_decode : ByteArray := prog_1_method_11_code
def y_LP_decode : MethodName := ⟨"LayeredPage", "decode", "()I"⟩
abbrev b_Dr_read : ByteArray := prog_5_method_2_code
def y_Dr_read : MethodName := ⟨"LayeredPage$DocumentReader", "read", "(LLayeredPage$Octets;LLayeredPage$Page;)I"⟩
abbrev b_Oct_chunkSize : ByteArray := prog_8_method_9_code
def y_Oct_chunkSize : MethodName := ⟨"LayeredPage$Octets", "chunkSize", "(I)I"⟩
abbrev b_Dr_readShape : ByteArray := prog_5_method_3_code
def y_Dr_readShape : MethodName := ⟨"LayeredPage$DocumentReader", "readShape", "(LLayeredPage$Octets;IILLayeredPage$Page;)I"⟩
abbrev b_Cr_begin : ByteArray := prog_2_method_2_code
def y_Cr_begin : MethodName := ⟨"LayeredPage$CodeReader", "begin", "([III)V"⟩
abbrev b_Dr_readPlacings : ByteArray := prog_5_method_4_code
def y_Dr_readPlacings : MethodName := ⟨"LayeredPage$DocumentReader", "readPlacings", "(LLayeredPage$Octets;IILLayeredPage$Page;)I"⟩
abbrev b_Dr_readLayer : ByteArray := prog_5_method_5_code
def y_Dr_readLayer : MethodName := ⟨"LayeredPage$DocumentReader", "readLayer", "(LLayeredPage$Octets;IILLayeredPage$Layer;)I"⟩
abbrev b_Ly_undoCoefficients : ByteArray := prog_7_method_10_code
def y_Ly_undoCoefficients : MethodName := ⟨"LayeredPage$Layer", "undoCoefficients", "()V"⟩
abbrev b_Ly_undoLine : ByteArray := prog_7_method_11_code
def y_Ly_undoLine : MethodName := ⟨"LayeredPage$Layer", "undoLine", "(III)V"⟩
abbrev b_LP_pixel : ByteArray := prog_1_method_12_code
def y_LP_pixel : MethodName := ⟨"LayeredPage", "pixel", "(II)I"⟩
abbrev b_Pg_isInked : ByteArray := prog_9_method_7_code
def y_Pg_isInked : MethodName := ⟨"LayeredPage$Page", "isInked", "(II)Z"⟩
abbrev b_Ly_cellAt : ByteArray := prog_7_method_5_code
def y_Ly_cellAt : MethodName := ⟨"LayeredPage$Layer", "cellAt", "(II)I"⟩
abbrev b_LP_inked : ByteArray := prog_1_method_13_code
def y_LP_inked : MethodName := ⟨"LayeredPage", "inked", "(II)Z"⟩
abbrev b_LP_cell : ByteArray := prog_1_method_14_code
def y_LP_cell : MethodName := ⟨"LayeredPage", "cell", "(III)I"⟩
abbrev b_LP_pictureLayer : ByteArray := prog_1_method_19_code
def y_LP_pictureLayer : MethodName := ⟨"LayeredPage", "pictureLayer", "(I)LLayeredPage$Layer;"⟩
abbrev b_LP_coefficient : ByteArray := prog_1_method_15_code
def y_LP_coefficient : MethodName := ⟨"LayeredPage", "coefficient", "(III)I"⟩
abbrev b_Ly_coefficientAt : ByteArray := prog_7_method_6_code
def y_Ly_coefficientAt : MethodName := ⟨"LayeredPage$Layer", "coefficientAt", "(II)I"⟩
abbrev b_LP_shapes : ByteArray := prog_1_method_16_code
def y_LP_shapes : MethodName := ⟨"LayeredPage", "shapes", "()I"⟩
abbrev b_LP_glyph : ByteArray := prog_1_method_17_code
def y_LP_glyph : MethodName := ⟨"LayeredPage", "glyph", "(I)J"⟩
abbrev b_LP_placings : ByteArray := prog_1_method_18_code
def y_LP_placings : MethodName := ⟨"LayeredPage", "placings", "()I"⟩
abbrev b_Md_init : ByteArray := prog_12_method_1_code
def y_Md_init : MethodName := ⟨"LayeredPageModel", "<init>", "()V"⟩
abbrev b_Md_shape : ByteArray := prog_12_method_4_code
def y_Md_shape : MethodName := ⟨"LayeredPageModel", "shape", "(JIII)I"⟩
abbrev b_Md_outside : ByteArray := prog_12_method_2_code
def y_Md_outside : MethodName := ⟨"LayeredPageModel", "outside", "(II)Z"⟩
abbrev b_Md_at : ByteArray := prog_12_method_3_code
def y_Md_at : MethodName := ⟨"LayeredPageModel", "at", "(JII)I"⟩
abbrev b_Md_place : ByteArray := prog_12_method_5_code
def y_Md_place : MethodName := ⟨"LayeredPageModel", "place", "(III)I"⟩
abbrev b_Md_paint : ByteArray := prog_12_method_7_code
def y_Md_paint : MethodName := ⟨"LayeredPageModel", "paint", "(IIJ)Z"⟩
abbrev b_Md_side : ByteArray := prog_12_method_6_code
def y_Md_side : MethodName := ⟨"LayeredPageModel", "side", "(I)I"⟩
abbrev b_Md_clear : ByteArray := prog_12_method_8_code
def y_Md_clear : MethodName := ⟨"LayeredPageModel", "clear", "()V"⟩
abbrev b_Md_encode : ByteArray := prog_12_method_26_code
def y_Md_encode : MethodName := ⟨"LayeredPageModel", "encode", "(I)I"⟩
abbrev b_Md_put : ByteArray := prog_12_method_14_code
def y_Md_put : MethodName := ⟨"LayeredPageModel", "put", "(I)V"⟩
abbrev b_Md_putShape : ByteArray := prog_12_method_24_code
def y_Md_putShape : MethodName := ⟨"LayeredPageModel", "putShape", "(I)V"⟩
abbrev b_Md_open : ByteArray := prog_12_method_23_code
def y_Md_open : MethodName := ⟨"LayeredPageModel", "open", "(I)I"⟩
abbrev b_Md_begin : ByteArray := prog_12_method_9_code
def y_Md_begin : MethodName := ⟨"LayeredPageModel", "begin", "(Z)V"⟩
abbrev b_Md_walk : ByteArray := prog_12_method_16_code
def y_Md_walk : MethodName := ⟨"LayeredPageModel", "walk", "(JIIZJ)J"⟩
abbrev b_Md_code : ByteArray := prog_12_method_13_code
def y_Md_code : MethodName := ⟨"LayeredPageModel", "code", "(II)I"⟩
abbrev b_Md_units : ByteArray := prog_12_method_12_code
def y_Md_units : MethodName := ⟨"LayeredPageModel", "units", "()I"⟩
abbrev b_Md_shift : ByteArray := prog_12_method_11_code
def y_Md_shift : MethodName := ⟨"LayeredPageModel", "shift", "(II)V"⟩
abbrev b_Md_putCode : ByteArray := prog_12_method_15_code
def y_Md_putCode : MethodName := ⟨"LayeredPageModel", "putCode", "()V"⟩
abbrev b_Md_close : ByteArray := prog_12_method_22_code
def y_Md_close : MethodName := ⟨"LayeredPageModel", "close", "(I)V"⟩
abbrev b_Md_putLayer : ByteArray := prog_12_method_25_code
def y_Md_putLayer : MethodName := ⟨"LayeredPageModel", "putLayer", "(II)V"⟩
abbrev b_Md_all : ByteArray := prog_12_method_21_code
def y_Md_all : MethodName := ⟨"LayeredPageModel", "all", "(IZZ)V"⟩
abbrev b_Md_lift : ByteArray := prog_12_method_19_code
def y_Md_lift : MethodName := ⟨"LayeredPageModel", "lift", "(I)V"⟩
abbrev b_Md_half : ByteArray := prog_12_method_18_code
def y_Md_half : MethodName := ⟨"LayeredPageModel", "half", "(I)I"⟩
abbrev b_Md_drop : ByteArray := prog_12_method_20_code
def y_Md_drop : MethodName := ⟨"LayeredPageModel", "drop", "(I)V"⟩
abbrev b_Md_planes : ByteArray := prog_12_method_17_code
def y_Md_planes : MethodName := ⟨"LayeredPageModel", "planes", "(II)V"⟩
abbrev b_Md_length : ByteArray := prog_12_method_27_code
def y_Md_length : MethodName := ⟨"LayeredPageModel", "length", "()I"⟩
abbrev b_Md_octet : ByteArray := prog_12_method_28_code
def y_Md_octet : MethodName := ⟨"LayeredPageModel", "octet", "(I)I"⟩
abbrev b_Md_alter : ByteArray := prog_12_method_29_code
def y_Md_alter : MethodName := ⟨"LayeredPageModel", "alter", "(II)Z"⟩
abbrev b_Md_cut : ByteArray := prog_12_method_30_code
def y_Md_cut : MethodName := ⟨"LayeredPageModel", "cut", "(I)Z"⟩
abbrev b_Md_decode : ByteArray := prog_12_method_36_code
def y_Md_decode : MethodName := ⟨"LayeredPageModel", "decode", "()I"⟩
abbrev b_Md_fault : ByteArray := prog_12_method_35_code
def y_Md_fault : MethodName := ⟨"LayeredPageModel", "fault", "()I"⟩
abbrev b_Md_chunkFault : ByteArray := prog_12_method_34_code
def y_Md_chunkFault : MethodName := ⟨"LayeredPageModel", "chunkFault", "(I)I"⟩
abbrev b_Md_chunkLength : ByteArray := prog_12_method_31_code
def y_Md_chunkLength : MethodName := ⟨"LayeredPageModel", "chunkLength", "(I)I"⟩
abbrev b_Md_before : ByteArray := prog_12_method_32_code
def y_Md_before : MethodName := ⟨"LayeredPageModel", "before", "(II)I"⟩
abbrev b_Md_placingsBefore : ByteArray := prog_12_method_33_code
def y_Md_placingsBefore : MethodName := ⟨"LayeredPageModel", "placingsBefore", "(I)I"⟩
abbrev b_Md_takeShape : ByteArray := prog_12_method_37_code
def y_Md_takeShape : MethodName := ⟨"LayeredPageModel", "takeShape", "(I)V"⟩
abbrev b_Md_load : ByteArray := prog_12_method_10_code
def y_Md_load : MethodName := ⟨"LayeredPageModel", "load", "(II)V"⟩
abbrev b_Md_takePlacings : ByteArray := prog_12_method_38_code
def y_Md_takePlacings : MethodName := ⟨"LayeredPageModel", "takePlacings", "(I)V"⟩
abbrev b_Md_takeLayer : ByteArray := prog_12_method_39_code
def y_Md_takeLayer : MethodName := ⟨"LayeredPageModel", "takeLayer", "(II)V"⟩
abbrev b_Md_inked : ByteArray := prog_12_method_40_code
def y_Md_inked : MethodName := ⟨"LayeredPageModel", "inked", "(II)Z"⟩
abbrev b_Md_cell : ByteArray := prog_12_method_42_code
def y_Md_cell : MethodName := ⟨"LayeredPageModel", "cell", "(III)I"⟩
abbrev b_Md_noCell : ByteArray := prog_12_method_41_code
def y_Md_noCell : MethodName := ⟨"LayeredPageModel", "noCell", "(III)Z"⟩
abbrev b_Md_pixel : ByteArray := prog_12_method_43_code
def y_Md_pixel : MethodName := ⟨"LayeredPageModel", "pixel", "(II)I"⟩
abbrev b_Md_coefficient : ByteArray := prog_12_method_44_code
def y_Md_coefficient : MethodName := ⟨"LayeredPageModel", "coefficient", "(III)I"⟩
abbrev b_Md_shapes : ByteArray := prog_12_method_45_code
def y_Md_shapes : MethodName := ⟨"LayeredPageModel", "shapes", "()I"⟩
abbrev b_Md_glyph : ByteArray := prog_12_method_46_code
def y_Md_glyph : MethodName := ⟨"LayeredPageModel", "glyph", "(I)J"⟩
abbrev b_Md_placings : ByteArray := prog_12_method_47_code
def y_Md_placings : MethodName := ⟨"LayeredPageModel", "placings", "()I"⟩
end
section
theorem d_LP_init_0 : decode b_LP_init 0 = .ok (.aload_n 0, 1) := by decide +kernel
theorem d_LP_init_1 : decode b_LP_init 1 = .ok (.invokespecial 3, 3) := by decide +kernel
theorem d_LP_init_4 : decode b_LP_init 4 = .ok (.aload_n 0, 1) := by decide +kernel
theorem d_LP_init_5 : decode b_LP_init 5 = .ok (.new 9, 3) := by decide +kernel
theorem d_LP_init_8 : decode b_LP_init 8 = .ok (.dup, 1) := by decide +kernel
theorem d_LP_init_9 : decode b_LP_init 9 = .ok (.invokespecial 11, 3) := by decide +kernel
theorem d_LP_init_12 : decode b_LP_init 12 = .ok (.putfield 12, 3) := by decide +kernel
theorem d_LP_init_15 : decode b_LP_init 15 = .ok (.aload_n 0, 1) := by decide +kernel
theorem d_LP_init_16 : decode b_LP_init 16 = .ok (.new 16, 3) := by decide +kernel
theorem d_LP_init_19 : decode b_LP_init 19 = .ok (.dup, 1) := by decide +kernel
theorem d_LP_init_20 : decode b_LP_init 20 = .ok (.invokespecial 18, 3) := by decide +kernel
theorem d_LP_init_23 : decode b_LP_init 23 = .ok (.putfield 19, 3) := by decide +kernel
theorem d_LP_init_26 : decode b_LP_init 26 = .ok (.aload_n 0, 1) := by decide +kernel
theorem d_LP_init_27 : decode b_LP_init 27 = .ok (.new 23, 3) := by decide +kernel
theorem d_LP_init_30 : decode b_LP_init 30 = .ok (.dup, 1) := by decide +kernel
theorem d_LP_init_31 : decode b_LP_init 31 = .ok (.invokespecial 25, 3) := by decide +kernel
theorem d_LP_init_34 : decode b_LP_init 34 = .ok (.putfield 26, 3) := by decide +kernel
theorem d_LP_init_37 : decode b_LP_init 37 = .ok (.aload_n 0, 1) := by decide +kernel
theorem d_LP_init_38 : decode b_LP_init 38 = .ok (.new 30, 3) := by decide +kernel
theorem d_LP_init_41 : decode b_LP_init 41 = .ok (.dup, 1) := by decide +kernel
theorem d_LP_init_42 : decode b_LP_init 42 = .ok (.invokespecial 32, 3) := by decide +kernel
theorem d_LP_init_45 : decode b_LP_init 45 = .ok (.putfield 33, 3) := by decide +kernel
theorem d_LP_init_48 : decode b_LP_init 48 = .ok (.aload_n 0, 1) := by decide +kernel
theorem d_LP_init_49 : decode b_LP_init 49 = .ok (.iconst 0, 1) := by decide +kernel
theorem d_LP_init_50 : decode b_LP_init 50 = .ok (.putfield 37, 3) := by decide +kernel
theorem d_LP_init_53 : decode b_LP_init 53 = .ok (.aload_n 0, 1) := by decide +kernel
theorem d_LP_init_54 : decode b_LP_init 54 = .ok (.new 30, 3) := by decide +kernel
theorem d_LP_init_57 : decode b_LP_init 57 = .ok (.dup, 1) := by decide +kernel
theorem d_LP_init_58 : decode b_LP_init 58 = .ok (.invokespecial 32, 3) := by decide +kernel
theorem d_LP_init_61 : decode b_LP_init 61 = .ok (.putfield 41, 3) := by decide +kernel
theorem d_LP_init_64 : decode b_LP_init 64 = .ok (.aload_n 0, 1) := by decide +kernel
theorem d_LP_init_65 : decode b_LP_init 65 = .ok (.new 30, 3) := by decide +kernel
theorem d_LP_init_68 : decode b_LP_init 68 = .ok (.dup, 1) := by decide +kernel
theorem d_LP_init_69 : decode b_LP_init 69 = .ok (.invokespecial 32, 3) := by decide +kernel
theorem d_LP_init_72 : decode b_LP_init 72 = .ok (.putfield 44, 3) := by decide +kernel
theorem d_LP_init_75 : decode b_LP_init 75 = .ok (.return_, 1) := by decide +kernel
theorem d_LP_shape_0 : decode b_LP_shape 0 = .ok (.iload 5, 2) := by decide +kernel
theorem d_LP_shape_2 : decode b_LP_shape 2 = .ok (.iconst (-1), 1) := by decide +kernel
theorem d_LP_shape_3 : decode b_LP_shape 3 = .ok (.if_icmp .eq 15, 3) := by decide +kernel
theorem d_LP_shape_6 : decode b_LP_shape 6 = .ok (.aload_n 0, 1) := by decide +kernel
theorem d_LP_shape_7 : decode b_LP_shape 7 = .ok (.getfield 33, 3) := by decide +kernel
theorem d_LP_shape_10 : decode b_LP_shape 10 = .ok (.iload 5, 2) := by decide +kernel
theorem d_LP_shape_12 : decode b_LP_shape 12 = .ok (.invokevirtual 47, 3) := by decide +kernel
theorem d_LP_shape_15 : decode b_LP_shape 15 = .ok (.ifCond .eq 7, 3) := by decide +kernel
theorem d_LP_shape_18 : decode b_LP_shape 18 = .ok (.iconst 1, 1) := by decide +kernel
theorem d_LP_shape_19 : decode b_LP_shape 19 = .ok (.goto 4, 3) := by decide +kernel
theorem d_LP_shape_22 : decode b_LP_shape 22 = .ok (.iconst 0, 1) := by decide +kernel
theorem d_LP_shape_23 : decode b_LP_shape 23 = .ok (.istore 6, 2) := by decide +kernel
theorem d_LP_shape_25 : decode b_LP_shape 25 = .ok (.iload 6, 2) := by decide +kernel
theorem d_LP_shape_27 : decode b_LP_shape 27 = .ok (.ifCond .eq 35, 3) := by decide +kernel
theorem d_LP_shape_30 : decode b_LP_shape 30 = .ok (.iload_n 3, 1) := by decide +kernel
theorem d_LP_shape_31 : decode b_LP_shape 31 = .ok (.invokestatic 51, 3) := by decide +kernel
theorem d_LP_shape_34 : decode b_LP_shape 34 = .ok (.ifCond .eq 28, 3) := by decide +kernel
theorem d_LP_shape_37 : decode b_LP_shape 37 = .ok (.iload 4, 2) := by decide +kernel
theorem d_LP_shape_39 : decode b_LP_shape 39 = .ok (.invokestatic 51, 3) := by decide +kernel
theorem d_LP_shape_42 : decode b_LP_shape 42 = .ok (.ifCond .eq 20, 3) := by decide +kernel
theorem d_LP_shape_45 : decode b_LP_shape 45 = .ok (.lload_n 1, 1) := by decide +kernel
theorem d_LP_shape_46 : decode b_LP_shape 46 = .ok (.iload_n 3, 1) := by decide +kernel
theorem d_LP_shape_47 : decode b_LP_shape 47 = .ok (.iload 4, 2) := by decide +kernel
theorem d_LP_shape_49 : decode b_LP_shape 49 = .ok (.invokestatic 54, 3) := by decide +kernel
theorem d_LP_shape_52 : decode b_LP_shape 52 = .ok (.ldc2_w 58, 3) := by decide +kernel
theorem d_LP_shape_55 : decode b_LP_shape 55 = .ok (.lxor, 1) := by decide +kernel
theorem d_LP_shape_56 : decode b_LP_shape 56 = .ok (.land, 1) := by decide +kernel
theorem d_LP_shape_57 : decode b_LP_shape 57 = .ok (.lconst 0, 1) := by decide +kernel
theorem d_LP_shape_58 : decode b_LP_shape 58 = .ok (.lcmp, 1) := by decide +kernel
theorem d_LP_shape_59 : decode b_LP_shape 59 = .ok (.ifCond .eq 5, 3) := by decide +kernel
theorem d_LP_shape_62 : decode b_LP_shape 62 = .ok (.iconst (-1), 1) := by decide +kernel
theorem d_LP_shape_63 : decode b_LP_shape 63 = .ok (.ireturn, 1) := by decide +kernel
theorem d_LP_shape_64 : decode b_LP_shape 64 = .ok (.aload_n 0, 1) := by decide +kernel
theorem d_LP_shape_65 : decode b_LP_shape 65 = .ok (.getfield 33, 3) := by decide +kernel
theorem d_LP_shape_68 : decode b_LP_shape 68 = .ok (.lload_n 1, 1) := by decide +kernel
theorem d_LP_shape_69 : decode b_LP_shape 69 = .ok (.iload_n 3, 1) := by decide +kernel
theorem d_LP_shape_70 : decode b_LP_shape 70 = .ok (.iload 4, 2) := by decide +kernel
theorem d_LP_shape_72 : decode b_LP_shape 72 = .ok (.iload 5, 2) := by decide +kernel
theorem d_LP_shape_74 : decode b_LP_shape 74 = .ok (.invokevirtual 60, 3) := by decide +kernel
theorem d_LP_shape_77 : decode b_LP_shape 77 = .ok (.ireturn, 1) := by decide +kernel
theorem d_LP_place_0 : decode b_LP_place 0 = .ok (.iload_n 2, 1) := by decide +kernel
theorem d_LP_place_1 : decode b_LP_place 1 = .ok (.iload_n 3, 1) := by decide +kernel
theorem d_LP_place_2 : decode b_LP_place 2 = .ok (.invokestatic 64, 3) := by decide +kernel
theorem d_LP_place_5 : decode b_LP_place 5 = .ok (.ifCond .eq 14, 3) := by decide +kernel
theorem d_LP_place_8 : decode b_LP_place 8 = .ok (.aload_n 0, 1) := by decide +kernel
theorem d_LP_place_9 : decode b_LP_place 9 = .ok (.getfield 33, 3) := by decide +kernel
theorem d_LP_place_12 : decode b_LP_place 12 = .ok (.iload_n 1, 1) := by decide +kernel
theorem d_LP_place_13 : decode b_LP_place 13 = .ok (.invokevirtual 47, 3) := by decide +kernel
theorem d_LP_place_16 : decode b_LP_place 16 = .ok (.ifCond .ne 5, 3) := by decide +kernel
theorem d_LP_place_19 : decode b_LP_place 19 = .ok (.iconst (-1), 1) := by decide +kernel
theorem d_LP_place_20 : decode b_LP_place 20 = .ok (.ireturn, 1) := by decide +kernel
theorem d_LP_place_21 : decode b_LP_place 21 = .ok (.aload_n 0, 1) := by decide +kernel
theorem d_LP_place_22 : decode b_LP_place 22 = .ok (.getfield 33, 3) := by decide +kernel
theorem d_LP_place_25 : decode b_LP_place 25 = .ok (.iload_n 1, 1) := by decide +kernel
theorem d_LP_place_26 : decode b_LP_place 26 = .ok (.bipush 16, 2) := by decide +kernel
theorem d_LP_place_28 : decode b_LP_place 28 = .ok (.iload_n 2, 1) := by decide +kernel
theorem d_LP_place_29 : decode b_LP_place 29 = .ok (.imul, 1) := by decide +kernel
theorem d_LP_place_30 : decode b_LP_place 30 = .ok (.iload_n 3, 1) := by decide +kernel
theorem d_LP_place_31 : decode b_LP_place 31 = .ok (.iadd, 1) := by decide +kernel
theorem d_LP_place_32 : decode b_LP_place 32 = .ok (.invokevirtual 68, 3) := by decide +kernel
theorem d_LP_place_35 : decode b_LP_place 35 = .ok (.ireturn, 1) := by decide +kernel
theorem d_LP_paint_0 : decode b_LP_paint 0 = .ok (.aload_n 0, 1) := by decide +kernel
theorem d_LP_paint_1 : decode b_LP_paint 1 = .ok (.getfield 33, 3) := by decide +kernel
theorem d_LP_paint_4 : decode b_LP_paint 4 = .ok (.iload_n 1, 1) := by decide +kernel
theorem d_LP_paint_5 : decode b_LP_paint 5 = .ok (.invokevirtual 72, 3) := by decide +kernel
theorem d_LP_paint_8 : decode b_LP_paint 8 = .ok (.astore 5, 2) := by decide +kernel
theorem d_LP_paint_10 : decode b_LP_paint 10 = .ok (.aload 5, 2) := by decide +kernel
theorem d_LP_paint_12 : decode b_LP_paint 12 = .ok (.ifnull 23, 3) := by decide +kernel
theorem d_LP_paint_15 : decode b_LP_paint 15 = .ok (.aload 5, 2) := by decide +kernel
theorem d_LP_paint_17 : decode b_LP_paint 17 = .ok (.iconst 0, 1) := by decide +kernel
theorem d_LP_paint_18 : decode b_LP_paint 18 = .ok (.iload_n 2, 1) := by decide +kernel
theorem d_LP_paint_19 : decode b_LP_paint 19 = .ok (.invokevirtual 76, 3) := by decide +kernel
theorem d_LP_paint_22 : decode b_LP_paint 22 = .ok (.ifCond .eq 13, 3) := by decide +kernel
theorem d_LP_paint_25 : decode b_LP_paint 25 = .ok (.lload_n 3, 1) := by decide +kernel
theorem d_LP_paint_26 : decode b_LP_paint 26 = .ok (.ldc2_w 81, 3) := by decide +kernel
theorem d_LP_paint_29 : decode b_LP_paint 29 = .ok (.land, 1) := by decide +kernel
theorem d_LP_paint_30 : decode b_LP_paint 30 = .ok (.lconst 0, 1) := by decide +kernel
theorem d_LP_paint_31 : decode b_LP_paint 31 = .ok (.lcmp, 1) := by decide +kernel
theorem d_LP_paint_32 : decode b_LP_paint 32 = .ok (.ifCond .eq 5, 3) := by decide +kernel
theorem d_LP_paint_35 : decode b_LP_paint 35 = .ok (.iconst 0, 1) := by decide +kernel
theorem d_LP_paint_36 : decode b_LP_paint 36 = .ok (.ireturn, 1) := by decide +kernel
theorem d_LP_paint_37 : decode b_LP_paint 37 = .ok (.aload 5, 2) := by decide +kernel
theorem d_LP_paint_39 : decode b_LP_paint 39 = .ok (.getfield 83, 3) := by decide +kernel
theorem d_LP_paint_42 : decode b_LP_paint 42 = .ok (.bipush 8, 2) := by decide +kernel
theorem d_LP_paint_44 : decode b_LP_paint 44 = .ok (.if_icmp .ge 22, 3) := by decide +kernel
theorem d_LP_paint_47 : decode b_LP_paint 47 = .ok (.lload_n 3, 1) := by decide +kernel
theorem d_LP_paint_48 : decode b_LP_paint 48 = .ok (.bipush 8, 2) := by decide +kernel
theorem d_LP_paint_50 : decode b_LP_paint 50 = .ok (.aload 5, 2) := by decide +kernel
theorem d_LP_paint_52 : decode b_LP_paint 52 = .ok (.getfield 83, 3) := by decide +kernel
theorem d_LP_paint_55 : decode b_LP_paint 55 = .ok (.imul, 1) := by decide +kernel
theorem d_LP_paint_56 : decode b_LP_paint 56 = .ok (.lushr, 1) := by decide +kernel
theorem d_LP_paint_57 : decode b_LP_paint 57 = .ok (.lconst 0, 1) := by decide +kernel
theorem d_LP_paint_58 : decode b_LP_paint 58 = .ok (.lcmp, 1) := by decide +kernel
theorem d_LP_paint_59 : decode b_LP_paint 59 = .ok (.ifCond .eq 7, 3) := by decide +kernel
theorem d_LP_paint_62 : decode b_LP_paint 62 = .ok (.iconst 1, 1) := by decide +kernel
theorem d_LP_paint_63 : decode b_LP_paint 63 = .ok (.goto 4, 3) := by decide +kernel
theorem d_LP_paint_66 : decode b_LP_paint 66 = .ok (.iconst 0, 1) := by decide +kernel
theorem d_LP_paint_67 : decode b_LP_paint 67 = .ok (.istore 6, 2) := by decide +kernel
theorem d_LP_paint_69 : decode b_LP_paint 69 = .ok (.iload 6, 2) := by decide +kernel
theorem d_LP_paint_71 : decode b_LP_paint 71 = .ok (.ifCond .eq 5, 3) := by decide +kernel
theorem d_LP_paint_74 : decode b_LP_paint 74 = .ok (.iconst 0, 1) := by decide +kernel
theorem d_LP_paint_75 : decode b_LP_paint 75 = .ok (.ireturn, 1) := by decide +kernel
theorem d_LP_paint_76 : decode b_LP_paint 76 = .ok (.aload 5, 2) := by decide +kernel
theorem d_LP_paint_78 : decode b_LP_paint 78 = .ok (.iload_n 2, 1) := by decide +kernel
theorem d_LP_paint_79 : decode b_LP_paint 79 = .ok (.lload_n 3, 1) := by decide +kernel
theorem d_LP_paint_80 : decode b_LP_paint 80 = .ok (.invokevirtual 87, 3) := by decide +kernel
theorem d_LP_paint_83 : decode b_LP_paint 83 = .ok (.iconst 1, 1) := by decide +kernel
theorem d_LP_paint_84 : decode b_LP_paint 84 = .ok (.ireturn, 1) := by decide +kernel
theorem d_LP_clear_0 : decode b_LP_clear 0 = .ok (.aload_n 0, 1) := by decide +kernel
theorem d_LP_clear_1 : decode b_LP_clear 1 = .ok (.getfield 33, 3) := by decide +kernel
theorem d_LP_clear_4 : decode b_LP_clear 4 = .ok (.invokevirtual 91, 3) := by decide +kernel
theorem d_LP_clear_7 : decode b_LP_clear 7 = .ok (.return_, 1) := by decide +kernel
theorem d_LP_encode_0 : decode b_LP_encode 0 = .ok (.iload_n 1, 1) := by decide +kernel
theorem d_LP_encode_1 : decode b_LP_encode 1 = .ok (.ifCond .lt 9, 3) := by decide +kernel
theorem d_LP_encode_4 : decode b_LP_encode 4 = .ok (.iload_n 1, 1) := by decide +kernel
theorem d_LP_encode_5 : decode b_LP_encode 5 = .ok (.bipush 10, 2) := by decide +kernel
theorem d_LP_encode_7 : decode b_LP_encode 7 = .ok (.if_icmp .le 5, 3) := by decide +kernel
theorem d_LP_encode_10 : decode b_LP_encode 10 = .ok (.iconst (-1), 1) := by decide +kernel
theorem d_LP_encode_11 : decode b_LP_encode 11 = .ok (.ireturn, 1) := by decide +kernel
theorem d_LP_encode_12 : decode b_LP_encode 12 = .ok (.aload_n 0, 1) := by decide +kernel
theorem d_LP_encode_13 : decode b_LP_encode 13 = .ok (.getfield 19, 3) := by decide +kernel
theorem d_LP_encode_16 : decode b_LP_encode 16 = .ok (.aload_n 0, 1) := by decide +kernel
theorem d_LP_encode_17 : decode b_LP_encode 17 = .ok (.getfield 33, 3) := by decide +kernel
theorem d_LP_encode_20 : decode b_LP_encode 20 = .ok (.iload_n 1, 1) := by decide +kernel
theorem d_LP_encode_21 : decode b_LP_encode 21 = .ok (.aload_n 0, 1) := by decide +kernel
theorem d_LP_encode_22 : decode b_LP_encode 22 = .ok (.getfield 12, 3) := by decide +kernel
theorem d_LP_encode_25 : decode b_LP_encode 25 = .ok (.invokevirtual 94, 3) := by decide +kernel
theorem d_LP_encode_28 : decode b_LP_encode 28 = .ok (.aload_n 0, 1) := by decide +kernel
theorem d_LP_encode_29 : decode b_LP_encode 29 = .ok (.getfield 12, 3) := by decide +kernel
theorem d_LP_encode_32 : decode b_LP_encode 32 = .ok (.getfield 98, 3) := by decide +kernel
theorem d_LP_encode_35 : decode b_LP_encode 35 = .ok (.ireturn, 1) := by decide +kernel
theorem d_LP_length_0 : decode b_LP_length 0 = .ok (.aload_n 0, 1) := by decide +kernel
theorem d_LP_length_1 : decode b_LP_length 1 = .ok (.getfield 12, 3) := by decide +kernel
theorem d_LP_length_4 : decode b_LP_length 4 = .ok (.getfield 98, 3) := by decide +kernel
theorem d_LP_length_7 : decode b_LP_length 7 = .ok (.ireturn, 1) := by decide +kernel
theorem d_LP_octet_0 : decode b_LP_octet 0 = .ok (.aload_n 0, 1) := by decide +kernel
theorem d_LP_octet_1 : decode b_LP_octet 1 = .ok (.getfield 12, 3) := by decide +kernel
theorem d_LP_octet_4 : decode b_LP_octet 4 = .ok (.iload_n 1, 1) := by decide +kernel
theorem d_LP_octet_5 : decode b_LP_octet 5 = .ok (.invokevirtual 101, 3) := by decide +kernel
theorem d_LP_octet_8 : decode b_LP_octet 8 = .ok (.ireturn, 1) := by decide +kernel
theorem d_LP_alter_0 : decode b_LP_alter 0 = .ok (.iload_n 1, 1) := by decide +kernel
theorem d_LP_alter_1 : decode b_LP_alter 1 = .ok (.ifCond .lt 32, 3) := by decide +kernel
theorem d_LP_alter_4 : decode b_LP_alter 4 = .ok (.iload_n 1, 1) := by decide +kernel
theorem d_LP_alter_5 : decode b_LP_alter 5 = .ok (.aload_n 0, 1) := by decide +kernel
theorem d_LP_alter_6 : decode b_LP_alter 6 = .ok (.getfield 12, 3) := by decide +kernel
theorem d_LP_alter_9 : decode b_LP_alter 9 = .ok (.getfield 98, 3) := by decide +kernel
theorem d_LP_alter_12 : decode b_LP_alter 12 = .ok (.if_icmp .gt 21, 3) := by decide +kernel
theorem d_LP_alter_15 : decode b_LP_alter 15 = .ok (.iload_n 1, 1) := by decide +kernel
theorem d_LP_alter_16 : decode b_LP_alter 16 = .ok (.sipush 1200, 3) := by decide +kernel
theorem d_LP_alter_19 : decode b_LP_alter 19 = .ok (.if_icmp .ge 14, 3) := by decide +kernel
theorem d_LP_alter_22 : decode b_LP_alter 22 = .ok (.iload_n 2, 1) := by decide +kernel
theorem d_LP_alter_23 : decode b_LP_alter 23 = .ok (.ifCond .lt 10, 3) := by decide +kernel
theorem d_LP_alter_26 : decode b_LP_alter 26 = .ok (.iload_n 2, 1) := by decide +kernel
theorem d_LP_alter_27 : decode b_LP_alter 27 = .ok (.sipush 255, 3) := by decide +kernel
theorem d_LP_alter_30 : decode b_LP_alter 30 = .ok (.if_icmp .le 5, 3) := by decide +kernel
theorem d_LP_alter_33 : decode b_LP_alter 33 = .ok (.iconst 0, 1) := by decide +kernel
theorem d_LP_alter_34 : decode b_LP_alter 34 = .ok (.ireturn, 1) := by decide +kernel
theorem d_LP_alter_35 : decode b_LP_alter 35 = .ok (.aload_n 0, 1) := by decide +kernel
theorem d_LP_alter_36 : decode b_LP_alter 36 = .ok (.getfield 12, 3) := by decide +kernel
theorem d_LP_alter_39 : decode b_LP_alter 39 = .ok (.iload_n 1, 1) := by decide +kernel
theorem d_LP_alter_40 : decode b_LP_alter 40 = .ok (.iload_n 2, 1) := by decide +kernel
theorem d_LP_alter_41 : decode b_LP_alter 41 = .ok (.invokevirtual 105, 3) := by decide +kernel
theorem d_LP_alter_44 : decode b_LP_alter 44 = .ok (.iconst 1, 1) := by decide +kernel
theorem d_LP_alter_45 : decode b_LP_alter 45 = .ok (.ireturn, 1) := by decide +kernel
theorem d_LP_cut_0 : decode b_LP_cut 0 = .ok (.iload_n 1, 1) := by decide +kernel
theorem d_LP_cut_1 : decode b_LP_cut 1 = .ok (.ifCond .lt 14, 3) := by decide +kernel
theorem d_LP_cut_4 : decode b_LP_cut 4 = .ok (.iload_n 1, 1) := by decide +kernel
theorem d_LP_cut_5 : decode b_LP_cut 5 = .ok (.aload_n 0, 1) := by decide +kernel
theorem d_LP_cut_6 : decode b_LP_cut 6 = .ok (.getfield 12, 3) := by decide +kernel
theorem d_LP_cut_9 : decode b_LP_cut 9 = .ok (.getfield 98, 3) := by decide +kernel
theorem d_LP_cut_12 : decode b_LP_cut 12 = .ok (.if_icmp .le 5, 3) := by decide +kernel
theorem d_LP_cut_15 : decode b_LP_cut 15 = .ok (.iconst 0, 1) := by decide +kernel
theorem d_LP_cut_16 : decode b_LP_cut 16 = .ok (.ireturn, 1) := by decide +kernel
theorem d_LP_cut_17 : decode b_LP_cut 17 = .ok (.aload_n 0, 1) := by decide +kernel
theorem d_LP_cut_18 : decode b_LP_cut 18 = .ok (.getfield 12, 3) := by decide +kernel
theorem d_LP_cut_21 : decode b_LP_cut 21 = .ok (.iload_n 1, 1) := by decide +kernel
theorem d_LP_cut_22 : decode b_LP_cut 22 = .ok (.invokevirtual 109, 3) := by decide +kernel
theorem d_LP_cut_25 : decode b_LP_cut 25 = .ok (.iconst 1, 1) := by decide +kernel
theorem d_LP_cut_26 : decode b_LP_cut 26 = .ok (.ireturn, 1) := by decide +kernel
theorem d_LP_decode_0 : decode b_LP_decode 0 = .ok (.aload_n 0, 1) := by decide +kernel
theorem d_LP_decode_1 : decode b_LP_decode 1 = .ok (.getfield 26, 3) := by decide +kernel
theorem d_LP_decode_4 : decode b_LP_decode 4 = .ok (.aload_n 0, 1) := by decide +kernel
theorem d_LP_decode_5 : decode b_LP_decode 5 = .ok (.getfield 12, 3) := by decide +kernel
theorem d_LP_decode_8 : decode b_LP_decode 8 = .ok (.aload_n 0, 1) := by decide +kernel
theorem d_LP_decode_9 : decode b_LP_decode 9 = .ok (.getfield 44, 3) := by decide +kernel
theorem d_LP_decode_12 : decode b_LP_decode 12 = .ok (.invokevirtual 113, 3) := by decide +kernel
theorem d_LP_decode_15 : decode b_LP_decode 15 = .ok (.istore_n 1, 1) := by decide +kernel
theorem d_LP_decode_16 : decode b_LP_decode 16 = .ok (.iload_n 1, 1) := by decide +kernel
theorem d_LP_decode_17 : decode b_LP_decode 17 = .ok (.ifCond .ne 26, 3) := by decide +kernel
theorem d_LP_decode_20 : decode b_LP_decode 20 = .ok (.aload_n 0, 1) := by decide +kernel
theorem d_LP_decode_21 : decode b_LP_decode 21 = .ok (.getfield 41, 3) := by decide +kernel
theorem d_LP_decode_24 : decode b_LP_decode 24 = .ok (.astore_n 2, 1) := by decide +kernel
theorem d_LP_decode_25 : decode b_LP_decode 25 = .ok (.aload_n 0, 1) := by decide +kernel
theorem d_LP_decode_26 : decode b_LP_decode 26 = .ok (.aload_n 0, 1) := by decide +kernel
theorem d_LP_decode_27 : decode b_LP_decode 27 = .ok (.getfield 44, 3) := by decide +kernel
theorem d_LP_decode_30 : decode b_LP_decode 30 = .ok (.putfield 41, 3) := by decide +kernel
theorem d_LP_decode_33 : decode b_LP_decode 33 = .ok (.aload_n 0, 1) := by decide +kernel
theorem d_LP_decode_34 : decode b_LP_decode 34 = .ok (.aload_n 2, 1) := by decide +kernel
theorem d_LP_decode_35 : decode b_LP_decode 35 = .ok (.putfield 44, 3) := by decide +kernel
theorem d_LP_decode_38 : decode b_LP_decode 38 = .ok (.aload_n 0, 1) := by decide +kernel
theorem d_LP_decode_39 : decode b_LP_decode 39 = .ok (.iconst 1, 1) := by decide +kernel
theorem d_LP_decode_40 : decode b_LP_decode 40 = .ok (.putfield 37, 3) := by decide +kernel
theorem d_LP_decode_43 : decode b_LP_decode 43 = .ok (.iload_n 1, 1) := by decide +kernel
theorem d_LP_decode_44 : decode b_LP_decode 44 = .ok (.ireturn, 1) := by decide +kernel
theorem d_LP_pixel_0 : decode b_LP_pixel 0 = .ok (.aload_n 0, 1) := by decide +kernel
theorem d_LP_pixel_1 : decode b_LP_pixel 1 = .ok (.getfield 37, 3) := by decide +kernel
theorem d_LP_pixel_4 : decode b_LP_pixel 4 = .ok (.ifCond .eq 11, 3) := by decide +kernel
theorem d_LP_pixel_7 : decode b_LP_pixel 7 = .ok (.iload_n 1, 1) := by decide +kernel
theorem d_LP_pixel_8 : decode b_LP_pixel 8 = .ok (.iload_n 2, 1) := by decide +kernel
theorem d_LP_pixel_9 : decode b_LP_pixel 9 = .ok (.invokestatic 64, 3) := by decide +kernel
theorem d_LP_pixel_12 : decode b_LP_pixel 12 = .ok (.ifCond .ne 5, 3) := by decide +kernel
theorem d_LP_pixel_15 : decode b_LP_pixel 15 = .ok (.iconst (-1), 1) := by decide +kernel
theorem d_LP_pixel_16 : decode b_LP_pixel 16 = .ok (.ireturn, 1) := by decide +kernel
theorem d_LP_pixel_17 : decode b_LP_pixel 17 = .ok (.aload_n 0, 1) := by decide +kernel
theorem d_LP_pixel_18 : decode b_LP_pixel 18 = .ok (.getfield 41, 3) := by decide +kernel
theorem d_LP_pixel_21 : decode b_LP_pixel 21 = .ok (.iload_n 1, 1) := by decide +kernel
theorem d_LP_pixel_22 : decode b_LP_pixel 22 = .ok (.iload_n 2, 1) := by decide +kernel
theorem d_LP_pixel_23 : decode b_LP_pixel 23 = .ok (.invokevirtual 117, 3) := by decide +kernel
theorem d_LP_pixel_26 : decode b_LP_pixel 26 = .ok (.ifCond .eq 20, 3) := by decide +kernel
theorem d_LP_pixel_29 : decode b_LP_pixel 29 = .ok (.aload_n 0, 1) := by decide +kernel
theorem d_LP_pixel_30 : decode b_LP_pixel 30 = .ok (.getfield 41, 3) := by decide +kernel
theorem d_LP_pixel_33 : decode b_LP_pixel 33 = .ok (.getfield 120, 3) := by decide +kernel
theorem d_LP_pixel_36 : decode b_LP_pixel 36 = .ok (.iload_n 1, 1) := by decide +kernel
theorem d_LP_pixel_37 : decode b_LP_pixel 37 = .ok (.iconst 4, 1) := by decide +kernel
theorem d_LP_pixel_38 : decode b_LP_pixel 38 = .ok (.idiv, 1) := by decide +kernel
theorem d_LP_pixel_39 : decode b_LP_pixel 39 = .ok (.iload_n 2, 1) := by decide +kernel
theorem d_LP_pixel_40 : decode b_LP_pixel 40 = .ok (.iconst 4, 1) := by decide +kernel
theorem d_LP_pixel_41 : decode b_LP_pixel 41 = .ok (.idiv, 1) := by decide +kernel
theorem d_LP_pixel_42 : decode b_LP_pixel 42 = .ok (.invokevirtual 124, 3) := by decide +kernel
theorem d_LP_pixel_45 : decode b_LP_pixel 45 = .ok (.ireturn, 1) := by decide +kernel
theorem d_LP_pixel_46 : decode b_LP_pixel 46 = .ok (.aload_n 0, 1) := by decide +kernel
theorem d_LP_pixel_47 : decode b_LP_pixel 47 = .ok (.getfield 41, 3) := by decide +kernel
theorem d_LP_pixel_50 : decode b_LP_pixel 50 = .ok (.getfield 127, 3) := by decide +kernel
theorem d_LP_pixel_53 : decode b_LP_pixel 53 = .ok (.iload_n 1, 1) := by decide +kernel
theorem d_LP_pixel_54 : decode b_LP_pixel 54 = .ok (.iconst 2, 1) := by decide +kernel
theorem d_LP_pixel_55 : decode b_LP_pixel 55 = .ok (.idiv, 1) := by decide +kernel
theorem d_LP_pixel_56 : decode b_LP_pixel 56 = .ok (.iload_n 2, 1) := by decide +kernel
theorem d_LP_pixel_57 : decode b_LP_pixel 57 = .ok (.iconst 2, 1) := by decide +kernel
theorem d_LP_pixel_58 : decode b_LP_pixel 58 = .ok (.idiv, 1) := by decide +kernel
theorem d_LP_pixel_59 : decode b_LP_pixel 59 = .ok (.invokevirtual 124, 3) := by decide +kernel
theorem d_LP_pixel_62 : decode b_LP_pixel 62 = .ok (.ireturn, 1) := by decide +kernel
theorem d_LP_inked_0 : decode b_LP_inked 0 = .ok (.aload_n 0, 1) := by decide +kernel
theorem d_LP_inked_1 : decode b_LP_inked 1 = .ok (.getfield 37, 3) := by decide +kernel
theorem d_LP_inked_4 : decode b_LP_inked 4 = .ok (.ifCond .eq 27, 3) := by decide +kernel
theorem d_LP_inked_7 : decode b_LP_inked 7 = .ok (.iload_n 1, 1) := by decide +kernel
theorem d_LP_inked_8 : decode b_LP_inked 8 = .ok (.iload_n 2, 1) := by decide +kernel
theorem d_LP_inked_9 : decode b_LP_inked 9 = .ok (.invokestatic 64, 3) := by decide +kernel
theorem d_LP_inked_12 : decode b_LP_inked 12 = .ok (.ifCond .eq 19, 3) := by decide +kernel
theorem d_LP_inked_15 : decode b_LP_inked 15 = .ok (.aload_n 0, 1) := by decide +kernel
theorem d_LP_inked_16 : decode b_LP_inked 16 = .ok (.getfield 41, 3) := by decide +kernel
theorem d_LP_inked_19 : decode b_LP_inked 19 = .ok (.iload_n 1, 1) := by decide +kernel
theorem d_LP_inked_20 : decode b_LP_inked 20 = .ok (.iload_n 2, 1) := by decide +kernel
theorem d_LP_inked_21 : decode b_LP_inked 21 = .ok (.invokevirtual 117, 3) := by decide +kernel
theorem d_LP_inked_24 : decode b_LP_inked 24 = .ok (.ifCond .eq 7, 3) := by decide +kernel
theorem d_LP_inked_27 : decode b_LP_inked 27 = .ok (.iconst 1, 1) := by decide +kernel
theorem d_LP_inked_28 : decode b_LP_inked 28 = .ok (.goto 4, 3) := by decide +kernel
theorem d_LP_inked_31 : decode b_LP_inked 31 = .ok (.iconst 0, 1) := by decide +kernel
theorem d_LP_inked_32 : decode b_LP_inked 32 = .ok (.ireturn, 1) := by decide +kernel
theorem d_LP_cell_0 : decode b_LP_cell 0 = .ok (.aload_n 0, 1) := by decide +kernel
theorem d_LP_cell_1 : decode b_LP_cell 1 = .ok (.iload_n 1, 1) := by decide +kernel
theorem d_LP_cell_2 : decode b_LP_cell 2 = .ok (.invokevirtual 130, 3) := by decide +kernel
theorem d_LP_cell_5 : decode b_LP_cell 5 = .ok (.astore 4, 2) := by decide +kernel
theorem d_LP_cell_7 : decode b_LP_cell 7 = .ok (.aload 4, 2) := by decide +kernel
theorem d_LP_cell_9 : decode b_LP_cell 9 = .ok (.ifnonnull 7, 3) := by decide +kernel
theorem d_LP_cell_12 : decode b_LP_cell 12 = .ok (.iconst (-1), 1) := by decide +kernel
theorem d_LP_cell_13 : decode b_LP_cell 13 = .ok (.goto 10, 3) := by decide +kernel
theorem d_LP_cell_16 : decode b_LP_cell 16 = .ok (.aload 4, 2) := by decide +kernel
theorem d_LP_cell_18 : decode b_LP_cell 18 = .ok (.iload_n 2, 1) := by decide +kernel
theorem d_LP_cell_19 : decode b_LP_cell 19 = .ok (.iload_n 3, 1) := by decide +kernel
theorem d_LP_cell_20 : decode b_LP_cell 20 = .ok (.invokevirtual 124, 3) := by decide +kernel
theorem d_LP_cell_23 : decode b_LP_cell 23 = .ok (.ireturn, 1) := by decide +kernel
theorem d_LP_coefficient_0 : decode b_LP_coefficient 0 = .ok (.aload_n 0, 1) := by decide +kernel
theorem d_LP_coefficient_1 : decode b_LP_coefficient 1 = .ok (.iload_n 1, 1) := by decide +kernel
theorem d_LP_coefficient_2 : decode b_LP_coefficient 2 = .ok (.invokevirtual 130, 3) := by decide +kernel
theorem d_LP_coefficient_5 : decode b_LP_coefficient 5 = .ok (.astore 4, 2) := by decide +kernel
theorem d_LP_coefficient_7 : decode b_LP_coefficient 7 = .ok (.aload 4, 2) := by decide +kernel
theorem d_LP_coefficient_9 : decode b_LP_coefficient 9 = .ok (.ifnonnull 7, 3) := by decide +kernel
theorem d_LP_coefficient_12 : decode b_LP_coefficient 12 = .ok (.iconst 0, 1) := by decide +kernel
theorem d_LP_coefficient_13 : decode b_LP_coefficient 13 = .ok (.goto 10, 3) := by decide +kernel
theorem d_LP_coefficient_16 : decode b_LP_coefficient 16 = .ok (.aload 4, 2) := by decide +kernel
theorem d_LP_coefficient_18 : decode b_LP_coefficient 18 = .ok (.iload_n 2, 1) := by decide +kernel
theorem d_LP_coefficient_19 : decode b_LP_coefficient 19 = .ok (.iload_n 3, 1) := by decide +kernel
theorem d_LP_coefficient_20 : decode b_LP_coefficient 20 = .ok (.invokevirtual 133, 3) := by decide +kernel
theorem d_LP_coefficient_23 : decode b_LP_coefficient 23 = .ok (.ireturn, 1) := by decide +kernel
theorem d_LP_shapes_0 : decode b_LP_shapes 0 = .ok (.aload_n 0, 1) := by decide +kernel
theorem d_LP_shapes_1 : decode b_LP_shapes 1 = .ok (.getfield 37, 3) := by decide +kernel
theorem d_LP_shapes_4 : decode b_LP_shapes 4 = .ok (.ifCond .eq 13, 3) := by decide +kernel
theorem d_LP_shapes_7 : decode b_LP_shapes 7 = .ok (.aload_n 0, 1) := by decide +kernel
theorem d_LP_shapes_8 : decode b_LP_shapes 8 = .ok (.getfield 41, 3) := by decide +kernel
theorem d_LP_shapes_11 : decode b_LP_shapes 11 = .ok (.getfield 136, 3) := by decide +kernel
theorem d_LP_shapes_14 : decode b_LP_shapes 14 = .ok (.goto 4, 3) := by decide +kernel
theorem d_LP_shapes_17 : decode b_LP_shapes 17 = .ok (.iconst (-1), 1) := by decide +kernel
theorem d_LP_shapes_18 : decode b_LP_shapes 18 = .ok (.ireturn, 1) := by decide +kernel
theorem d_LP_glyph_0 : decode b_LP_glyph 0 = .ok (.aload_n 0, 1) := by decide +kernel
theorem d_LP_glyph_1 : decode b_LP_glyph 1 = .ok (.getfield 37, 3) := by decide +kernel
theorem d_LP_glyph_4 : decode b_LP_glyph 4 = .ok (.ifCond .eq 29, 3) := by decide +kernel
theorem d_LP_glyph_7 : decode b_LP_glyph 7 = .ok (.aload_n 0, 1) := by decide +kernel
theorem d_LP_glyph_8 : decode b_LP_glyph 8 = .ok (.getfield 41, 3) := by decide +kernel
theorem d_LP_glyph_11 : decode b_LP_glyph 11 = .ok (.iload_n 1, 1) := by decide +kernel
theorem d_LP_glyph_12 : decode b_LP_glyph 12 = .ok (.invokevirtual 47, 3) := by decide +kernel
theorem d_LP_glyph_15 : decode b_LP_glyph 15 = .ok (.ifCond .eq 18, 3) := by decide +kernel
theorem d_LP_glyph_18 : decode b_LP_glyph 18 = .ok (.aload_n 0, 1) := by decide +kernel
theorem d_LP_glyph_19 : decode b_LP_glyph 19 = .ok (.getfield 41, 3) := by decide +kernel
theorem d_LP_glyph_22 : decode b_LP_glyph 22 = .ok (.getfield 139, 3) := by decide +kernel
theorem d_LP_glyph_25 : decode b_LP_glyph 25 = .ok (.iload_n 1, 1) := by decide +kernel
theorem d_LP_glyph_26 : decode b_LP_glyph 26 = .ok (.aaload, 1) := by decide +kernel
theorem d_LP_glyph_27 : decode b_LP_glyph 27 = .ok (.getfield 143, 3) := by decide +kernel
theorem d_LP_glyph_30 : decode b_LP_glyph 30 = .ok (.goto 4, 3) := by decide +kernel
theorem d_LP_glyph_33 : decode b_LP_glyph 33 = .ok (.lconst 0, 1) := by decide +kernel
theorem d_LP_glyph_34 : decode b_LP_glyph 34 = .ok (.lreturn, 1) := by decide +kernel
theorem d_LP_placings_0 : decode b_LP_placings 0 = .ok (.aload_n 0, 1) := by decide +kernel
theorem d_LP_placings_1 : decode b_LP_placings 1 = .ok (.getfield 37, 3) := by decide +kernel
theorem d_LP_placings_4 : decode b_LP_placings 4 = .ok (.ifCond .eq 13, 3) := by decide +kernel
theorem d_LP_placings_7 : decode b_LP_placings 7 = .ok (.aload_n 0, 1) := by decide +kernel
theorem d_LP_placings_8 : decode b_LP_placings 8 = .ok (.getfield 41, 3) := by decide +kernel
theorem d_LP_placings_11 : decode b_LP_placings 11 = .ok (.getfield 149, 3) := by decide +kernel
theorem d_LP_placings_14 : decode b_LP_placings 14 = .ok (.goto 4, 3) := by decide +kernel
theorem d_LP_placings_17 : decode b_LP_placings 17 = .ok (.iconst (-1), 1) := by decide +kernel
theorem d_LP_placings_18 : decode b_LP_placings 18 = .ok (.ireturn, 1) := by decide +kernel
theorem d_LP_pictureLayer_0 : decode b_LP_pictureLayer 0 = .ok (.aload_n 0, 1) := by decide +kernel
theorem d_LP_pictureLayer_1 : decode b_LP_pictureLayer 1 = .ok (.getfield 37, 3) := by decide +kernel
theorem d_LP_pictureLayer_4 : decode b_LP_pictureLayer 4 = .ok (.ifCond .eq 14, 3) := by decide +kernel
theorem d_LP_pictureLayer_7 : decode b_LP_pictureLayer 7 = .ok (.aload_n 0, 1) := by decide +kernel
theorem d_LP_pictureLayer_8 : decode b_LP_pictureLayer 8 = .ok (.getfield 41, 3) := by decide +kernel
theorem d_LP_pictureLayer_11 : decode b_LP_pictureLayer 11 = .ok (.iload_n 1, 1) := by decide +kernel
theorem d_LP_pictureLayer_12 : decode b_LP_pictureLayer 12 = .ok (.invokevirtual 72, 3) := by decide +kernel
theorem d_LP_pictureLayer_15 : decode b_LP_pictureLayer 15 = .ok (.goto 4, 3) := by decide +kernel
theorem d_LP_pictureLayer_18 : decode b_LP_pictureLayer 18 = .ok (.aconst_null, 1) := by decide +kernel
theorem d_LP_pictureLayer_19 : decode b_LP_pictureLayer 19 = .ok (.areturn, 1) := by decide +kernel
theorem d_LP_isOnPage_0 : decode b_LP_isOnPage 0 = .ok (.iload_n 0, 1) := by decide +kernel
theorem d_LP_isOnPage_1 : decode b_LP_isOnPage 1 = .ok (.ifCond .lt 23, 3) := by decide +kernel
theorem d_LP_isOnPage_4 : decode b_LP_isOnPage 4 = .ok (.iload_n 0, 1) := by decide +kernel
theorem d_LP_isOnPage_5 : decode b_LP_isOnPage 5 = .ok (.bipush 16, 2) := by decide +kernel
theorem d_LP_isOnPage_7 : decode b_LP_isOnPage 7 = .ok (.if_icmp .ge 17, 3) := by decide +kernel
theorem d_LP_isOnPage_10 : decode b_LP_isOnPage 10 = .ok (.iload_n 1, 1) := by decide +kernel
theorem d_LP_isOnPage_11 : decode b_LP_isOnPage 11 = .ok (.ifCond .lt 13, 3) := by decide +kernel
theorem d_LP_isOnPage_14 : decode b_LP_isOnPage 14 = .ok (.iload_n 1, 1) := by decide +kernel
theorem d_LP_isOnPage_15 : decode b_LP_isOnPage 15 = .ok (.bipush 16, 2) := by decide +kernel
theorem d_LP_isOnPage_17 : decode b_LP_isOnPage 17 = .ok (.if_icmp .ge 7, 3) := by decide +kernel
theorem d_LP_isOnPage_20 : decode b_LP_isOnPage 20 = .ok (.iconst 1, 1) := by decide +kernel
theorem d_LP_isOnPage_21 : decode b_LP_isOnPage 21 = .ok (.goto 4, 3) := by decide +kernel
theorem d_LP_isOnPage_24 : decode b_LP_isOnPage 24 = .ok (.iconst 0, 1) := by decide +kernel
theorem d_LP_isOnPage_25 : decode b_LP_isOnPage 25 = .ok (.ireturn, 1) := by decide +kernel
theorem d_LP_isShapeSide_0 : decode b_LP_isShapeSide 0 = .ok (.iload_n 0, 1) := by decide +kernel
theorem d_LP_isShapeSide_1 : decode b_LP_isShapeSide 1 = .ok (.iconst 1, 1) := by decide +kernel
theorem d_LP_isShapeSide_2 : decode b_LP_isShapeSide 2 = .ok (.if_icmp .lt 13, 3) := by decide +kernel
theorem d_LP_isShapeSide_5 : decode b_LP_isShapeSide 5 = .ok (.iload_n 0, 1) := by decide +kernel
theorem d_LP_isShapeSide_6 : decode b_LP_isShapeSide 6 = .ok (.bipush 8, 2) := by decide +kernel
theorem d_LP_isShapeSide_8 : decode b_LP_isShapeSide 8 = .ok (.if_icmp .gt 7, 3) := by decide +kernel
theorem d_LP_isShapeSide_11 : decode b_LP_isShapeSide 11 = .ok (.iconst 1, 1) := by decide +kernel
theorem d_LP_isShapeSide_12 : decode b_LP_isShapeSide 12 = .ok (.goto 4, 3) := by decide +kernel
theorem d_LP_isShapeSide_15 : decode b_LP_isShapeSide 15 = .ok (.iconst 0, 1) := by decide +kernel
theorem d_LP_isShapeSide_16 : decode b_LP_isShapeSide 16 = .ok (.ireturn, 1) := by decide +kernel
theorem d_LP_shapeMask_0 : decode b_LP_shapeMask 0 = .ok (.lconst 1, 1) := by decide +kernel
theorem d_LP_shapeMask_1 : decode b_LP_shapeMask 1 = .ok (.iload_n 0, 1) := by decide +kernel
theorem d_LP_shapeMask_2 : decode b_LP_shapeMask 2 = .ok (.lshl, 1) := by decide +kernel
theorem d_LP_shapeMask_3 : decode b_LP_shapeMask 3 = .ok (.lconst 1, 1) := by decide +kernel
theorem d_LP_shapeMask_4 : decode b_LP_shapeMask 4 = .ok (.lsub, 1) := by decide +kernel
theorem d_LP_shapeMask_5 : decode b_LP_shapeMask 5 = .ok (.lstore_n 2, 1) := by decide +kernel
theorem d_LP_shapeMask_6 : decode b_LP_shapeMask 6 = .ok (.lconst 0, 1) := by decide +kernel
theorem d_LP_shapeMask_7 : decode b_LP_shapeMask 7 = .ok (.lstore 4, 2) := by decide +kernel
theorem d_LP_shapeMask_9 : decode b_LP_shapeMask 9 = .ok (.iconst 0, 1) := by decide +kernel
theorem d_LP_shapeMask_10 : decode b_LP_shapeMask 10 = .ok (.istore 6, 2) := by decide +kernel
theorem d_LP_shapeMask_12 : decode b_LP_shapeMask 12 = .ok (.iload 6, 2) := by decide +kernel
theorem d_LP_shapeMask_14 : decode b_LP_shapeMask 14 = .ok (.iload_n 1, 1) := by decide +kernel
theorem d_LP_shapeMask_15 : decode b_LP_shapeMask 15 = .ok (.if_icmp .ge 21, 3) := by decide +kernel
theorem d_LP_shapeMask_18 : decode b_LP_shapeMask 18 = .ok (.lload 4, 2) := by decide +kernel
theorem d_LP_shapeMask_20 : decode b_LP_shapeMask 20 = .ok (.lload_n 2, 1) := by decide +kernel
theorem d_LP_shapeMask_21 : decode b_LP_shapeMask 21 = .ok (.bipush 8, 2) := by decide +kernel
theorem d_LP_shapeMask_23 : decode b_LP_shapeMask 23 = .ok (.iload 6, 2) := by decide +kernel
theorem d_LP_shapeMask_25 : decode b_LP_shapeMask 25 = .ok (.imul, 1) := by decide +kernel
theorem d_LP_shapeMask_26 : decode b_LP_shapeMask 26 = .ok (.lshl, 1) := by decide +kernel
theorem d_LP_shapeMask_27 : decode b_LP_shapeMask 27 = .ok (.lor, 1) := by decide +kernel
theorem d_LP_shapeMask_28 : decode b_LP_shapeMask 28 = .ok (.lstore 4, 2) := by decide +kernel
theorem d_LP_shapeMask_30 : decode b_LP_shapeMask 30 = .ok (.iinc 6 1, 3) := by decide +kernel
theorem d_LP_shapeMask_33 : decode b_LP_shapeMask 33 = .ok (.goto (-21), 3) := by decide +kernel
theorem d_LP_shapeMask_36 : decode b_LP_shapeMask 36 = .ok (.lload 4, 2) := by decide +kernel
theorem d_LP_shapeMask_38 : decode b_LP_shapeMask 38 = .ok (.lreturn, 1) := by decide +kernel
theorem d_Md_init_0 : decode b_Md_init 0 = .ok (.aload_n 0, 1) := by decide +kernel
theorem d_Md_init_1 : decode b_Md_init 1 = .ok (.invokespecial 1, 3) := by decide +kernel
theorem d_Md_init_4 : decode b_Md_init 4 = .ok (.aload_n 0, 1) := by decide +kernel
theorem d_Md_init_5 : decode b_Md_init 5 = .ok (.bipush 8, 2) := by decide +kernel
theorem d_Md_init_7 : decode b_Md_init 7 = .ok (.newarray .long, 2) := by decide +kernel
theorem d_Md_init_9 : decode b_Md_init 9 = .ok (.putfield 7, 3) := by decide +kernel
theorem d_Md_init_12 : decode b_Md_init 12 = .ok (.aload_n 0, 1) := by decide +kernel
theorem d_Md_init_13 : decode b_Md_init 13 = .ok (.bipush 8, 2) := by decide +kernel
theorem d_Md_init_15 : decode b_Md_init 15 = .ok (.newarray .int, 2) := by decide +kernel
theorem d_Md_init_17 : decode b_Md_init 17 = .ok (.putfield 13, 3) := by decide +kernel
theorem d_Md_init_20 : decode b_Md_init 20 = .ok (.aload_n 0, 1) := by decide +kernel
theorem d_Md_init_21 : decode b_Md_init 21 = .ok (.bipush 8, 2) := by decide +kernel
theorem d_Md_init_23 : decode b_Md_init 23 = .ok (.newarray .int, 2) := by decide +kernel
theorem d_Md_init_25 : decode b_Md_init 25 = .ok (.putfield 17, 3) := by decide +kernel
theorem d_Md_init_28 : decode b_Md_init 28 = .ok (.aload_n 0, 1) := by decide +kernel
theorem d_Md_init_29 : decode b_Md_init 29 = .ok (.bipush 8, 2) := by decide +kernel
theorem d_Md_init_31 : decode b_Md_init 31 = .ok (.newarray .int, 2) := by decide +kernel
theorem d_Md_init_33 : decode b_Md_init 33 = .ok (.putfield 20, 3) := by decide +kernel
theorem d_Md_init_36 : decode b_Md_init 36 = .ok (.aload_n 0, 1) := by decide +kernel
theorem d_Md_init_37 : decode b_Md_init 37 = .ok (.bipush 20, 2) := by decide +kernel
theorem d_Md_init_39 : decode b_Md_init 39 = .ok (.newarray .int, 2) := by decide +kernel
theorem d_Md_init_41 : decode b_Md_init 41 = .ok (.putfield 23, 3) := by decide +kernel
theorem d_Md_init_44 : decode b_Md_init 44 = .ok (.aload_n 0, 1) := by decide +kernel
theorem d_Md_init_45 : decode b_Md_init 45 = .ok (.bipush 20, 2) := by decide +kernel
theorem d_Md_init_47 : decode b_Md_init 47 = .ok (.newarray .int, 2) := by decide +kernel
theorem d_Md_init_49 : decode b_Md_init 49 = .ok (.putfield 26, 3) := by decide +kernel
theorem d_Md_init_52 : decode b_Md_init 52 = .ok (.aload_n 0, 1) := by decide +kernel
theorem d_Md_init_53 : decode b_Md_init 53 = .ok (.sipush 128, 3) := by decide +kernel
theorem d_Md_init_56 : decode b_Md_init 56 = .ok (.newarray .int, 2) := by decide +kernel
theorem d_Md_init_58 : decode b_Md_init 58 = .ok (.putfield 29, 3) := by decide +kernel
theorem d_Md_init_61 : decode b_Md_init 61 = .ok (.aload_n 0, 1) := by decide +kernel
theorem d_Md_init_62 : decode b_Md_init 62 = .ok (.sipush 1200, 3) := by decide +kernel
theorem d_Md_init_65 : decode b_Md_init 65 = .ok (.newarray .int, 2) := by decide +kernel
theorem d_Md_init_67 : decode b_Md_init 67 = .ok (.putfield 32, 3) := by decide +kernel
theorem d_Md_init_70 : decode b_Md_init 70 = .ok (.aload_n 0, 1) := by decide +kernel
theorem d_Md_init_71 : decode b_Md_init 71 = .ok (.bipush 8, 2) := by decide +kernel
theorem d_Md_init_73 : decode b_Md_init 73 = .ok (.newarray .long, 2) := by decide +kernel
theorem d_Md_init_75 : decode b_Md_init 75 = .ok (.putfield 35, 3) := by decide +kernel
theorem d_Md_init_78 : decode b_Md_init 78 = .ok (.aload_n 0, 1) := by decide +kernel
theorem d_Md_init_79 : decode b_Md_init 79 = .ok (.bipush 20, 2) := by decide +kernel
theorem d_Md_init_81 : decode b_Md_init 81 = .ok (.newarray .int, 2) := by decide +kernel
theorem d_Md_init_83 : decode b_Md_init 83 = .ok (.putfield 38, 3) := by decide +kernel
theorem d_Md_init_86 : decode b_Md_init 86 = .ok (.aload_n 0, 1) := by decide +kernel
theorem d_Md_init_87 : decode b_Md_init 87 = .ok (.bipush 20, 2) := by decide +kernel
theorem d_Md_init_89 : decode b_Md_init 89 = .ok (.newarray .int, 2) := by decide +kernel
theorem d_Md_init_91 : decode b_Md_init 91 = .ok (.putfield 41, 3) := by decide +kernel
theorem d_Md_init_94 : decode b_Md_init 94 = .ok (.aload_n 0, 1) := by decide +kernel
theorem d_Md_init_95 : decode b_Md_init 95 = .ok (.sipush 128, 3) := by decide +kernel
theorem d_Md_init_98 : decode b_Md_init 98 = .ok (.newarray .int, 2) := by decide +kernel
theorem d_Md_init_100 : decode b_Md_init 100 = .ok (.putfield 44, 3) := by decide +kernel
theorem d_Md_init_103 : decode b_Md_init 103 = .ok (.aload_n 0, 1) := by decide +kernel
theorem d_Md_init_104 : decode b_Md_init 104 = .ok (.sipush 128, 3) := by decide +kernel
theorem d_Md_init_107 : decode b_Md_init 107 = .ok (.newarray .int, 2) := by decide +kernel
theorem d_Md_init_109 : decode b_Md_init 109 = .ok (.putfield 47, 3) := by decide +kernel
theorem d_Md_init_112 : decode b_Md_init 112 = .ok (.aload_n 0, 1) := by decide +kernel
theorem d_Md_init_113 : decode b_Md_init 113 = .ok (.bipush 48, 2) := by decide +kernel
theorem d_Md_init_115 : decode b_Md_init 115 = .ok (.newarray .int, 2) := by decide +kernel
theorem d_Md_init_117 : decode b_Md_init 117 = .ok (.putfield 50, 3) := by decide +kernel
theorem d_Md_init_120 : decode b_Md_init 120 = .ok (.aload_n 0, 1) := by decide +kernel
theorem d_Md_init_121 : decode b_Md_init 121 = .ok (.bipush 48, 2) := by decide +kernel
theorem d_Md_init_123 : decode b_Md_init 123 = .ok (.newarray .int, 2) := by decide +kernel
theorem d_Md_init_125 : decode b_Md_init 125 = .ok (.putfield 53, 3) := by decide +kernel
theorem d_Md_init_128 : decode b_Md_init 128 = .ok (.aload_n 0, 1) := by decide +kernel
theorem d_Md_init_129 : decode b_Md_init 129 = .ok (.sipush 4400, 3) := by decide +kernel
theorem d_Md_init_132 : decode b_Md_init 132 = .ok (.newarray .int, 2) := by decide +kernel
theorem d_Md_init_134 : decode b_Md_init 134 = .ok (.putfield 56, 3) := by decide +kernel
theorem d_Md_init_137 : decode b_Md_init 137 = .ok (.aload_n 0, 1) := by decide +kernel
theorem d_Md_init_138 : decode b_Md_init 138 = .ok (.bipush 64, 2) := by decide +kernel
theorem d_Md_init_140 : decode b_Md_init 140 = .ok (.newarray .int, 2) := by decide +kernel
theorem d_Md_init_142 : decode b_Md_init 142 = .ok (.putfield 59, 3) := by decide +kernel
theorem d_Md_init_145 : decode b_Md_init 145 = .ok (.aload_n 0, 1) := by decide +kernel
theorem d_Md_init_146 : decode b_Md_init 146 = .ok (.bipush 8, 2) := by decide +kernel
theorem d_Md_init_148 : decode b_Md_init 148 = .ok (.newarray .int, 2) := by decide +kernel
theorem d_Md_init_150 : decode b_Md_init 150 = .ok (.putfield 62, 3) := by decide +kernel
theorem d_Md_init_153 : decode b_Md_init 153 = .ok (.aload_n 0, 1) := by decide +kernel
theorem d_Md_init_154 : decode b_Md_init 154 = .ok (.bipush 8, 2) := by decide +kernel
theorem d_Md_init_156 : decode b_Md_init 156 = .ok (.newarray .int, 2) := by decide +kernel
theorem d_Md_init_158 : decode b_Md_init 158 = .ok (.putfield 65, 3) := by decide +kernel
theorem d_Md_init_161 : decode b_Md_init 161 = .ok (.aload_n 0, 1) := by decide +kernel
theorem d_Md_init_162 : decode b_Md_init 162 = .ok (.bipush 64, 2) := by decide +kernel
theorem d_Md_init_164 : decode b_Md_init 164 = .ok (.newarray .int, 2) := by decide +kernel
theorem d_Md_init_166 : decode b_Md_init 166 = .ok (.putfield 68, 3) := by decide +kernel
theorem d_Md_init_169 : decode b_Md_init 169 = .ok (.aload_n 0, 1) := by decide +kernel
theorem d_Md_init_170 : decode b_Md_init 170 = .ok (.bipush 64, 2) := by decide +kernel
theorem d_Md_init_172 : decode b_Md_init 172 = .ok (.newarray .boolean, 2) := by decide +kernel
theorem d_Md_init_174 : decode b_Md_init 174 = .ok (.putfield 71, 3) := by decide +kernel
theorem d_Md_init_177 : decode b_Md_init 177 = .ok (.return_, 1) := by decide +kernel
theorem d_Md_outside_0 : decode b_Md_outside 0 = .ok (.iload_n 0, 1) := by decide +kernel
theorem d_Md_outside_1 : decode b_Md_outside 1 = .ok (.ifCond .lt 8, 3) := by decide +kernel
theorem d_Md_outside_4 : decode b_Md_outside 4 = .ok (.iload_n 0, 1) := by decide +kernel
theorem d_Md_outside_5 : decode b_Md_outside 5 = .ok (.iload_n 1, 1) := by decide +kernel
theorem d_Md_outside_6 : decode b_Md_outside 6 = .ok (.if_icmp .le 7, 3) := by decide +kernel
theorem d_Md_outside_9 : decode b_Md_outside 9 = .ok (.iconst 1, 1) := by decide +kernel
theorem d_Md_outside_10 : decode b_Md_outside 10 = .ok (.goto 4, 3) := by decide +kernel
theorem d_Md_outside_13 : decode b_Md_outside 13 = .ok (.iconst 0, 1) := by decide +kernel
theorem d_Md_outside_14 : decode b_Md_outside 14 = .ok (.ireturn, 1) := by decide +kernel
theorem d_Md_at_0 : decode b_Md_at 0 = .ok (.iload_n 2, 1) := by decide +kernel
theorem d_Md_at_1 : decode b_Md_at 1 = .ok (.bipush 7, 2) := by decide +kernel
theorem d_Md_at_3 : decode b_Md_at 3 = .ok (.invokestatic 75, 3) := by decide +kernel
theorem d_Md_at_6 : decode b_Md_at 6 = .ok (.ifCond .ne 12, 3) := by decide +kernel
theorem d_Md_at_9 : decode b_Md_at 9 = .ok (.iload_n 3, 1) := by decide +kernel
theorem d_Md_at_10 : decode b_Md_at 10 = .ok (.bipush 7, 2) := by decide +kernel
theorem d_Md_at_12 : decode b_Md_at 12 = .ok (.invokestatic 75, 3) := by decide +kernel
theorem d_Md_at_15 : decode b_Md_at 15 = .ok (.ifCond .eq 7, 3) := by decide +kernel
theorem d_Md_at_18 : decode b_Md_at 18 = .ok (.iconst 0, 1) := by decide +kernel
theorem d_Md_at_19 : decode b_Md_at 19 = .ok (.goto 14, 3) := by decide +kernel
theorem d_Md_at_22 : decode b_Md_at 22 = .ok (.lload_n 0, 1) := by decide +kernel
theorem d_Md_at_23 : decode b_Md_at 23 = .ok (.bipush 8, 2) := by decide +kernel
theorem d_Md_at_25 : decode b_Md_at 25 = .ok (.iload_n 3, 1) := by decide +kernel
theorem d_Md_at_26 : decode b_Md_at 26 = .ok (.imul, 1) := by decide +kernel
theorem d_Md_at_27 : decode b_Md_at 27 = .ok (.iload_n 2, 1) := by decide +kernel
theorem d_Md_at_28 : decode b_Md_at 28 = .ok (.iadd, 1) := by decide +kernel
theorem d_Md_at_29 : decode b_Md_at 29 = .ok (.lushr, 1) := by decide +kernel
theorem d_Md_at_30 : decode b_Md_at 30 = .ok (.lconst 1, 1) := by decide +kernel
theorem d_Md_at_31 : decode b_Md_at 31 = .ok (.land, 1) := by decide +kernel
theorem d_Md_at_32 : decode b_Md_at 32 = .ok (.l2i, 1) := by decide +kernel
theorem d_Md_at_33 : decode b_Md_at 33 = .ok (.ireturn, 1) := by decide +kernel
theorem d_Md_shape_0 : decode b_Md_shape 0 = .ok (.aload_n 0, 1) := by decide +kernel
theorem d_Md_shape_1 : decode b_Md_shape 1 = .ok (.getfield 79, 3) := by decide +kernel
theorem d_Md_shape_4 : decode b_Md_shape 4 = .ok (.bipush 8, 2) := by decide +kernel
theorem d_Md_shape_6 : decode b_Md_shape 6 = .ok (.if_icmp .eq 41, 3) := by decide +kernel
theorem d_Md_shape_9 : decode b_Md_shape 9 = .ok (.iload_n 3, 1) := by decide +kernel
theorem d_Md_shape_10 : decode b_Md_shape 10 = .ok (.iconst 1, 1) := by decide +kernel
theorem d_Md_shape_11 : decode b_Md_shape 11 = .ok (.isub, 1) := by decide +kernel
theorem d_Md_shape_12 : decode b_Md_shape 12 = .ok (.bipush 7, 2) := by decide +kernel
theorem d_Md_shape_14 : decode b_Md_shape 14 = .ok (.invokestatic 75, 3) := by decide +kernel
theorem d_Md_shape_17 : decode b_Md_shape 17 = .ok (.ifCond .ne 30, 3) := by decide +kernel
theorem d_Md_shape_20 : decode b_Md_shape 20 = .ok (.iload 4, 2) := by decide +kernel
theorem d_Md_shape_22 : decode b_Md_shape 22 = .ok (.iconst 1, 1) := by decide +kernel
theorem d_Md_shape_23 : decode b_Md_shape 23 = .ok (.isub, 1) := by decide +kernel
theorem d_Md_shape_24 : decode b_Md_shape 24 = .ok (.bipush 7, 2) := by decide +kernel
theorem d_Md_shape_26 : decode b_Md_shape 26 = .ok (.invokestatic 75, 3) := by decide +kernel
theorem d_Md_shape_29 : decode b_Md_shape 29 = .ok (.ifCond .ne 18, 3) := by decide +kernel
theorem d_Md_shape_32 : decode b_Md_shape 32 = .ok (.iload 5, 2) := by decide +kernel
theorem d_Md_shape_34 : decode b_Md_shape 34 = .ok (.iconst (-1), 1) := by decide +kernel
theorem d_Md_shape_35 : decode b_Md_shape 35 = .ok (.if_icmp .lt 12, 3) := by decide +kernel
theorem d_Md_shape_38 : decode b_Md_shape 38 = .ok (.iload 5, 2) := by decide +kernel
theorem d_Md_shape_40 : decode b_Md_shape 40 = .ok (.aload_n 0, 1) := by decide +kernel
theorem d_Md_shape_41 : decode b_Md_shape 41 = .ok (.getfield 79, 3) := by decide +kernel
theorem d_Md_shape_44 : decode b_Md_shape 44 = .ok (.if_icmp .lt 5, 3) := by decide +kernel
theorem d_Md_shape_47 : decode b_Md_shape 47 = .ok (.iconst (-1), 1) := by decide +kernel
theorem d_Md_shape_48 : decode b_Md_shape 48 = .ok (.ireturn, 1) := by decide +kernel
theorem d_Md_shape_49 : decode b_Md_shape 49 = .ok (.iconst 0, 1) := by decide +kernel
theorem d_Md_shape_50 : decode b_Md_shape 50 = .ok (.istore 6, 2) := by decide +kernel
theorem d_Md_shape_52 : decode b_Md_shape 52 = .ok (.iload 6, 2) := by decide +kernel
theorem d_Md_shape_54 : decode b_Md_shape 54 = .ok (.bipush 8, 2) := by decide +kernel
theorem d_Md_shape_56 : decode b_Md_shape 56 = .ok (.if_icmp .ge 52, 3) := by decide +kernel
theorem d_Md_shape_59 : decode b_Md_shape 59 = .ok (.iconst 0, 1) := by decide +kernel
theorem d_Md_shape_60 : decode b_Md_shape 60 = .ok (.istore 7, 2) := by decide +kernel
theorem d_Md_shape_62 : decode b_Md_shape 62 = .ok (.iload 7, 2) := by decide +kernel
theorem d_Md_shape_64 : decode b_Md_shape 64 = .ok (.bipush 8, 2) := by decide +kernel
theorem d_Md_shape_66 : decode b_Md_shape 66 = .ok (.if_icmp .ge 36, 3) := by decide +kernel
theorem d_Md_shape_69 : decode b_Md_shape 69 = .ok (.iload 7, 2) := by decide +kernel
theorem d_Md_shape_71 : decode b_Md_shape 71 = .ok (.iload_n 3, 1) := by decide +kernel
theorem d_Md_shape_72 : decode b_Md_shape 72 = .ok (.if_icmp .ge 10, 3) := by decide +kernel
theorem d_Md_shape_75 : decode b_Md_shape 75 = .ok (.iload 6, 2) := by decide +kernel
theorem d_Md_shape_77 : decode b_Md_shape 77 = .ok (.iload 4, 2) := by decide +kernel
theorem d_Md_shape_79 : decode b_Md_shape 79 = .ok (.if_icmp .lt 17, 3) := by decide +kernel
theorem d_Md_shape_82 : decode b_Md_shape 82 = .ok (.lload_n 1, 1) := by decide +kernel
theorem d_Md_shape_83 : decode b_Md_shape 83 = .ok (.iload 7, 2) := by decide +kernel
theorem d_Md_shape_85 : decode b_Md_shape 85 = .ok (.iload 6, 2) := by decide +kernel
theorem d_Md_shape_87 : decode b_Md_shape 87 = .ok (.invokestatic 83, 3) := by decide +kernel
theorem d_Md_shape_90 : decode b_Md_shape 90 = .ok (.iconst 1, 1) := by decide +kernel
theorem d_Md_shape_91 : decode b_Md_shape 91 = .ok (.if_icmp .ne 5, 3) := by decide +kernel
theorem d_Md_shape_94 : decode b_Md_shape 94 = .ok (.iconst (-1), 1) := by decide +kernel
theorem d_Md_shape_95 : decode b_Md_shape 95 = .ok (.ireturn, 1) := by decide +kernel
theorem d_Md_shape_96 : decode b_Md_shape 96 = .ok (.iinc 7 1, 3) := by decide +kernel
theorem d_Md_shape_99 : decode b_Md_shape 99 = .ok (.goto (-37), 3) := by decide +kernel
theorem d_Md_shape_102 : decode b_Md_shape 102 = .ok (.iinc 6 1, 3) := by decide +kernel
theorem d_Md_shape_105 : decode b_Md_shape 105 = .ok (.goto (-53), 3) := by decide +kernel
theorem d_Md_shape_108 : decode b_Md_shape 108 = .ok (.aload_n 0, 1) := by decide +kernel
theorem d_Md_shape_109 : decode b_Md_shape 109 = .ok (.getfield 7, 3) := by decide +kernel
theorem d_Md_shape_112 : decode b_Md_shape 112 = .ok (.aload_n 0, 1) := by decide +kernel
theorem d_Md_shape_113 : decode b_Md_shape 113 = .ok (.getfield 79, 3) := by decide +kernel
theorem d_Md_shape_116 : decode b_Md_shape 116 = .ok (.lload_n 1, 1) := by decide +kernel
theorem d_Md_shape_117 : decode b_Md_shape 117 = .ok (.lastore, 1) := by decide +kernel
theorem d_Md_shape_118 : decode b_Md_shape 118 = .ok (.aload_n 0, 1) := by decide +kernel
theorem d_Md_shape_119 : decode b_Md_shape 119 = .ok (.getfield 13, 3) := by decide +kernel
theorem d_Md_shape_122 : decode b_Md_shape 122 = .ok (.aload_n 0, 1) := by decide +kernel
theorem d_Md_shape_123 : decode b_Md_shape 123 = .ok (.getfield 79, 3) := by decide +kernel
theorem d_Md_shape_126 : decode b_Md_shape 126 = .ok (.iload_n 3, 1) := by decide +kernel
theorem d_Md_shape_127 : decode b_Md_shape 127 = .ok (.iastore, 1) := by decide +kernel
theorem d_Md_shape_128 : decode b_Md_shape 128 = .ok (.aload_n 0, 1) := by decide +kernel
theorem d_Md_shape_129 : decode b_Md_shape 129 = .ok (.getfield 17, 3) := by decide +kernel
theorem d_Md_shape_132 : decode b_Md_shape 132 = .ok (.aload_n 0, 1) := by decide +kernel
theorem d_Md_shape_133 : decode b_Md_shape 133 = .ok (.getfield 79, 3) := by decide +kernel
theorem d_Md_shape_136 : decode b_Md_shape 136 = .ok (.iload 4, 2) := by decide +kernel
theorem d_Md_shape_138 : decode b_Md_shape 138 = .ok (.iastore, 1) := by decide +kernel
theorem d_Md_shape_139 : decode b_Md_shape 139 = .ok (.aload_n 0, 1) := by decide +kernel
theorem d_Md_shape_140 : decode b_Md_shape 140 = .ok (.getfield 20, 3) := by decide +kernel
theorem d_Md_shape_143 : decode b_Md_shape 143 = .ok (.aload_n 0, 1) := by decide +kernel
theorem d_Md_shape_144 : decode b_Md_shape 144 = .ok (.getfield 79, 3) := by decide +kernel
theorem d_Md_shape_147 : decode b_Md_shape 147 = .ok (.iload 5, 2) := by decide +kernel
theorem d_Md_shape_149 : decode b_Md_shape 149 = .ok (.iastore, 1) := by decide +kernel
theorem d_Md_shape_150 : decode b_Md_shape 150 = .ok (.aload_n 0, 1) := by decide +kernel
theorem d_Md_shape_151 : decode b_Md_shape 151 = .ok (.dup, 1) := by decide +kernel
theorem d_Md_shape_152 : decode b_Md_shape 152 = .ok (.getfield 79, 3) := by decide +kernel
theorem d_Md_shape_155 : decode b_Md_shape 155 = .ok (.iconst 1, 1) := by decide +kernel
theorem d_Md_shape_156 : decode b_Md_shape 156 = .ok (.iadd, 1) := by decide +kernel
theorem d_Md_shape_157 : decode b_Md_shape 157 = .ok (.putfield 79, 3) := by decide +kernel
theorem d_Md_shape_160 : decode b_Md_shape 160 = .ok (.aload_n 0, 1) := by decide +kernel
theorem d_Md_shape_161 : decode b_Md_shape 161 = .ok (.getfield 79, 3) := by decide +kernel
theorem d_Md_shape_164 : decode b_Md_shape 164 = .ok (.iconst 1, 1) := by decide +kernel
theorem d_Md_shape_165 : decode b_Md_shape 165 = .ok (.isub, 1) := by decide +kernel
theorem d_Md_shape_166 : decode b_Md_shape 166 = .ok (.ireturn, 1) := by decide +kernel
theorem d_Md_place_0 : decode b_Md_place 0 = .ok (.aload_n 0, 1) := by decide +kernel
theorem d_Md_place_1 : decode b_Md_place 1 = .ok (.getfield 87, 3) := by decide +kernel
theorem d_Md_place_4 : decode b_Md_place 4 = .ok (.bipush 20, 2) := by decide +kernel
theorem d_Md_place_6 : decode b_Md_place 6 = .ok (.if_icmp .eq 34, 3) := by decide +kernel
theorem d_Md_place_9 : decode b_Md_place 9 = .ok (.iload_n 1, 1) := by decide +kernel
theorem d_Md_place_10 : decode b_Md_place 10 = .ok (.aload_n 0, 1) := by decide +kernel
theorem d_Md_place_11 : decode b_Md_place 11 = .ok (.getfield 79, 3) := by decide +kernel
theorem d_Md_place_14 : decode b_Md_place 14 = .ok (.iconst 1, 1) := by decide +kernel
theorem d_Md_place_15 : decode b_Md_place 15 = .ok (.isub, 1) := by decide +kernel
theorem d_Md_place_16 : decode b_Md_place 16 = .ok (.invokestatic 75, 3) := by decide +kernel
theorem d_Md_place_19 : decode b_Md_place 19 = .ok (.ifCond .ne 21, 3) := by decide +kernel
theorem d_Md_place_22 : decode b_Md_place 22 = .ok (.iload_n 2, 1) := by decide +kernel
theorem d_Md_place_23 : decode b_Md_place 23 = .ok (.bipush 15, 2) := by decide +kernel
theorem d_Md_place_25 : decode b_Md_place 25 = .ok (.invokestatic 75, 3) := by decide +kernel
theorem d_Md_place_28 : decode b_Md_place 28 = .ok (.ifCond .ne 12, 3) := by decide +kernel
theorem d_Md_place_31 : decode b_Md_place 31 = .ok (.iload_n 3, 1) := by decide +kernel
theorem d_Md_place_32 : decode b_Md_place 32 = .ok (.bipush 15, 2) := by decide +kernel
theorem d_Md_place_34 : decode b_Md_place 34 = .ok (.invokestatic 75, 3) := by decide +kernel
theorem d_Md_place_37 : decode b_Md_place 37 = .ok (.ifCond .eq 5, 3) := by decide +kernel
theorem d_Md_place_40 : decode b_Md_place 40 = .ok (.iconst (-1), 1) := by decide +kernel
theorem d_Md_place_41 : decode b_Md_place 41 = .ok (.ireturn, 1) := by decide +kernel
theorem d_Md_place_42 : decode b_Md_place 42 = .ok (.aload_n 0, 1) := by decide +kernel
theorem d_Md_place_43 : decode b_Md_place 43 = .ok (.getfield 23, 3) := by decide +kernel
theorem d_Md_place_46 : decode b_Md_place 46 = .ok (.aload_n 0, 1) := by decide +kernel
theorem d_Md_place_47 : decode b_Md_place 47 = .ok (.getfield 87, 3) := by decide +kernel
theorem d_Md_place_50 : decode b_Md_place 50 = .ok (.iload_n 1, 1) := by decide +kernel
theorem d_Md_place_51 : decode b_Md_place 51 = .ok (.iastore, 1) := by decide +kernel
theorem d_Md_place_52 : decode b_Md_place 52 = .ok (.aload_n 0, 1) := by decide +kernel
theorem d_Md_place_53 : decode b_Md_place 53 = .ok (.getfield 26, 3) := by decide +kernel
theorem d_Md_place_56 : decode b_Md_place 56 = .ok (.aload_n 0, 1) := by decide +kernel
theorem d_Md_place_57 : decode b_Md_place 57 = .ok (.getfield 87, 3) := by decide +kernel
theorem d_Md_place_60 : decode b_Md_place 60 = .ok (.bipush 16, 2) := by decide +kernel
theorem d_Md_place_62 : decode b_Md_place 62 = .ok (.iload_n 2, 1) := by decide +kernel
theorem d_Md_place_63 : decode b_Md_place 63 = .ok (.imul, 1) := by decide +kernel
theorem d_Md_place_64 : decode b_Md_place 64 = .ok (.iload_n 3, 1) := by decide +kernel
theorem d_Md_place_65 : decode b_Md_place 65 = .ok (.iadd, 1) := by decide +kernel
theorem d_Md_place_66 : decode b_Md_place 66 = .ok (.iastore, 1) := by decide +kernel
theorem d_Md_place_67 : decode b_Md_place 67 = .ok (.aload_n 0, 1) := by decide +kernel
theorem d_Md_place_68 : decode b_Md_place 68 = .ok (.dup, 1) := by decide +kernel
theorem d_Md_place_69 : decode b_Md_place 69 = .ok (.getfield 87, 3) := by decide +kernel
theorem d_Md_place_72 : decode b_Md_place 72 = .ok (.iconst 1, 1) := by decide +kernel
theorem d_Md_place_73 : decode b_Md_place 73 = .ok (.iadd, 1) := by decide +kernel
theorem d_Md_place_74 : decode b_Md_place 74 = .ok (.putfield 87, 3) := by decide +kernel
theorem d_Md_place_77 : decode b_Md_place 77 = .ok (.aload_n 0, 1) := by decide +kernel
theorem d_Md_place_78 : decode b_Md_place 78 = .ok (.getfield 87, 3) := by decide +kernel
theorem d_Md_place_81 : decode b_Md_place 81 = .ok (.ireturn, 1) := by decide +kernel
theorem d_Md_side_0 : decode b_Md_side 0 = .ok (.iload_n 0, 1) := by decide +kernel
theorem d_Md_side_1 : decode b_Md_side 1 = .ok (.ifCond .ne 8, 3) := by decide +kernel
theorem d_Md_side_4 : decode b_Md_side 4 = .ok (.bipush 8, 2) := by decide +kernel
theorem d_Md_side_6 : decode b_Md_side 6 = .ok (.goto 4, 3) := by decide +kernel
theorem d_Md_side_9 : decode b_Md_side 9 = .ok (.iconst 4, 1) := by decide +kernel
theorem d_Md_side_10 : decode b_Md_side 10 = .ok (.ireturn, 1) := by decide +kernel
theorem d_Md_paint_0 : decode b_Md_paint 0 = .ok (.iload_n 1, 1) := by decide +kernel
theorem d_Md_paint_1 : decode b_Md_paint 1 = .ok (.iconst 1, 1) := by decide +kernel
theorem d_Md_paint_2 : decode b_Md_paint 2 = .ok (.invokestatic 75, 3) := by decide +kernel
theorem d_Md_paint_5 : decode b_Md_paint 5 = .ok (.ifCond .ne 16, 3) := by decide +kernel
theorem d_Md_paint_8 : decode b_Md_paint 8 = .ok (.iload_n 2, 1) := by decide +kernel
theorem d_Md_paint_9 : decode b_Md_paint 9 = .ok (.iload_n 1, 1) := by decide +kernel
theorem d_Md_paint_10 : decode b_Md_paint 10 = .ok (.invokestatic 90, 3) := by decide +kernel
theorem d_Md_paint_13 : decode b_Md_paint 13 = .ok (.iconst 1, 1) := by decide +kernel
theorem d_Md_paint_14 : decode b_Md_paint 14 = .ok (.isub, 1) := by decide +kernel
theorem d_Md_paint_15 : decode b_Md_paint 15 = .ok (.invokestatic 75, 3) := by decide +kernel
theorem d_Md_paint_18 : decode b_Md_paint 18 = .ok (.ifCond .eq 5, 3) := by decide +kernel
theorem d_Md_paint_21 : decode b_Md_paint 21 = .ok (.iconst 0, 1) := by decide +kernel
theorem d_Md_paint_22 : decode b_Md_paint 22 = .ok (.ireturn, 1) := by decide +kernel
theorem d_Md_paint_23 : decode b_Md_paint 23 = .ok (.iconst 0, 1) := by decide +kernel
theorem d_Md_paint_24 : decode b_Md_paint 24 = .ok (.istore 5, 2) := by decide +kernel
theorem d_Md_paint_26 : decode b_Md_paint 26 = .ok (.iload 5, 2) := by decide +kernel
theorem d_Md_paint_28 : decode b_Md_paint 28 = .ok (.bipush 8, 2) := by decide +kernel
theorem d_Md_paint_30 : decode b_Md_paint 30 = .ok (.if_icmp .ge 46, 3) := by decide +kernel
theorem d_Md_paint_33 : decode b_Md_paint 33 = .ok (.lload_n 3, 1) := by decide +kernel
theorem d_Md_paint_34 : decode b_Md_paint 34 = .ok (.bipush 8, 2) := by decide +kernel
theorem d_Md_paint_36 : decode b_Md_paint 36 = .ok (.iload 5, 2) := by decide +kernel
theorem d_Md_paint_38 : decode b_Md_paint 38 = .ok (.imul, 1) := by decide +kernel
theorem d_Md_paint_39 : decode b_Md_paint 39 = .ok (.lushr, 1) := by decide +kernel
theorem d_Md_paint_40 : decode b_Md_paint 40 = .ok (.ldc2_w 94, 3) := by decide +kernel
theorem d_Md_paint_43 : decode b_Md_paint 43 = .ok (.land, 1) := by decide +kernel
theorem d_Md_paint_44 : decode b_Md_paint 44 = .ok (.l2i, 1) := by decide +kernel
theorem d_Md_paint_45 : decode b_Md_paint 45 = .ok (.istore 6, 2) := by decide +kernel
theorem d_Md_paint_47 : decode b_Md_paint 47 = .ok (.iload 6, 2) := by decide +kernel
theorem d_Md_paint_49 : decode b_Md_paint 49 = .ok (.bipush 63, 2) := by decide +kernel
theorem d_Md_paint_51 : decode b_Md_paint 51 = .ok (.if_icmp .gt 17, 3) := by decide +kernel
theorem d_Md_paint_54 : decode b_Md_paint 54 = .ok (.iload 5, 2) := by decide +kernel
theorem d_Md_paint_56 : decode b_Md_paint 56 = .ok (.iload_n 1, 1) := by decide +kernel
theorem d_Md_paint_57 : decode b_Md_paint 57 = .ok (.invokestatic 90, 3) := by decide +kernel
theorem d_Md_paint_60 : decode b_Md_paint 60 = .ok (.if_icmp .lt 10, 3) := by decide +kernel
theorem d_Md_paint_63 : decode b_Md_paint 63 = .ok (.iload 6, 2) := by decide +kernel
theorem d_Md_paint_65 : decode b_Md_paint 65 = .ok (.ifCond .le 5, 3) := by decide +kernel
theorem d_Md_paint_68 : decode b_Md_paint 68 = .ok (.iconst 0, 1) := by decide +kernel
theorem d_Md_paint_69 : decode b_Md_paint 69 = .ok (.ireturn, 1) := by decide +kernel
theorem d_Md_paint_70 : decode b_Md_paint 70 = .ok (.iinc 5 1, 3) := by decide +kernel
theorem d_Md_paint_73 : decode b_Md_paint 73 = .ok (.goto (-47), 3) := by decide +kernel
theorem d_Md_paint_76 : decode b_Md_paint 76 = .ok (.iconst 0, 1) := by decide +kernel
theorem d_Md_paint_77 : decode b_Md_paint 77 = .ok (.istore 5, 2) := by decide +kernel
theorem d_Md_paint_79 : decode b_Md_paint 79 = .ok (.iload 5, 2) := by decide +kernel
theorem d_Md_paint_81 : decode b_Md_paint 81 = .ok (.iload_n 1, 1) := by decide +kernel
theorem d_Md_paint_82 : decode b_Md_paint 82 = .ok (.invokestatic 90, 3) := by decide +kernel
theorem d_Md_paint_85 : decode b_Md_paint 85 = .ok (.if_icmp .ge 38, 3) := by decide +kernel
theorem d_Md_paint_88 : decode b_Md_paint 88 = .ok (.aload_n 0, 1) := by decide +kernel
theorem d_Md_paint_89 : decode b_Md_paint 89 = .ok (.getfield 29, 3) := by decide +kernel
theorem d_Md_paint_92 : decode b_Md_paint 92 = .ok (.bipush 64, 2) := by decide +kernel
theorem d_Md_paint_94 : decode b_Md_paint 94 = .ok (.iload_n 1, 1) := by decide +kernel
theorem d_Md_paint_95 : decode b_Md_paint 95 = .ok (.imul, 1) := by decide +kernel
theorem d_Md_paint_96 : decode b_Md_paint 96 = .ok (.bipush 8, 2) := by decide +kernel
theorem d_Md_paint_98 : decode b_Md_paint 98 = .ok (.iload_n 2, 1) := by decide +kernel
theorem d_Md_paint_99 : decode b_Md_paint 99 = .ok (.imul, 1) := by decide +kernel
theorem d_Md_paint_100 : decode b_Md_paint 100 = .ok (.iadd, 1) := by decide +kernel
theorem d_Md_paint_101 : decode b_Md_paint 101 = .ok (.iload 5, 2) := by decide +kernel
theorem d_Md_paint_103 : decode b_Md_paint 103 = .ok (.iadd, 1) := by decide +kernel
theorem d_Md_paint_104 : decode b_Md_paint 104 = .ok (.lload_n 3, 1) := by decide +kernel
theorem d_Md_paint_105 : decode b_Md_paint 105 = .ok (.bipush 8, 2) := by decide +kernel
theorem d_Md_paint_107 : decode b_Md_paint 107 = .ok (.iload 5, 2) := by decide +kernel
theorem d_Md_paint_109 : decode b_Md_paint 109 = .ok (.imul, 1) := by decide +kernel
theorem d_Md_paint_110 : decode b_Md_paint 110 = .ok (.lushr, 1) := by decide +kernel
theorem d_Md_paint_111 : decode b_Md_paint 111 = .ok (.ldc2_w 94, 3) := by decide +kernel
theorem d_Md_paint_114 : decode b_Md_paint 114 = .ok (.land, 1) := by decide +kernel
theorem d_Md_paint_115 : decode b_Md_paint 115 = .ok (.l2i, 1) := by decide +kernel
theorem d_Md_paint_116 : decode b_Md_paint 116 = .ok (.iastore, 1) := by decide +kernel
theorem d_Md_paint_117 : decode b_Md_paint 117 = .ok (.iinc 5 1, 3) := by decide +kernel
theorem d_Md_paint_120 : decode b_Md_paint 120 = .ok (.goto (-41), 3) := by decide +kernel
theorem d_Md_paint_123 : decode b_Md_paint 123 = .ok (.iconst 1, 1) := by decide +kernel
theorem d_Md_paint_124 : decode b_Md_paint 124 = .ok (.ireturn, 1) := by decide +kernel
theorem d_Md_clear_0 : decode b_Md_clear 0 = .ok (.aload_n 0, 1) := by decide +kernel
theorem d_Md_clear_1 : decode b_Md_clear 1 = .ok (.iconst 0, 1) := by decide +kernel
theorem d_Md_clear_2 : decode b_Md_clear 2 = .ok (.putfield 79, 3) := by decide +kernel
theorem d_Md_clear_5 : decode b_Md_clear 5 = .ok (.aload_n 0, 1) := by decide +kernel
theorem d_Md_clear_6 : decode b_Md_clear 6 = .ok (.iconst 0, 1) := by decide +kernel
theorem d_Md_clear_7 : decode b_Md_clear 7 = .ok (.putfield 87, 3) := by decide +kernel
theorem d_Md_clear_10 : decode b_Md_clear 10 = .ok (.iconst 0, 1) := by decide +kernel
theorem d_Md_clear_11 : decode b_Md_clear 11 = .ok (.istore_n 1, 1) := by decide +kernel
theorem d_Md_clear_12 : decode b_Md_clear 12 = .ok (.iload_n 1, 1) := by decide +kernel
theorem d_Md_clear_13 : decode b_Md_clear 13 = .ok (.sipush 128, 3) := by decide +kernel
theorem d_Md_clear_16 : decode b_Md_clear 16 = .ok (.if_icmp .ge 16, 3) := by decide +kernel
theorem d_Md_clear_19 : decode b_Md_clear 19 = .ok (.aload_n 0, 1) := by decide +kernel
theorem d_Md_clear_20 : decode b_Md_clear 20 = .ok (.getfield 29, 3) := by decide +kernel
theorem d_Md_clear_23 : decode b_Md_clear 23 = .ok (.iload_n 1, 1) := by decide +kernel
theorem d_Md_clear_24 : decode b_Md_clear 24 = .ok (.iconst 0, 1) := by decide +kernel
theorem d_Md_clear_25 : decode b_Md_clear 25 = .ok (.iastore, 1) := by decide +kernel
theorem d_Md_clear_26 : decode b_Md_clear 26 = .ok (.iinc 1 1, 3) := by decide +kernel
theorem d_Md_clear_29 : decode b_Md_clear 29 = .ok (.goto (-17), 3) := by decide +kernel
theorem d_Md_clear_32 : decode b_Md_clear 32 = .ok (.return_, 1) := by decide +kernel
theorem d_Md_begin_0 : decode b_Md_begin 0 = .ok (.aload_n 0, 1) := by decide +kernel
theorem d_Md_begin_1 : decode b_Md_begin 1 = .ok (.iload_n 1, 1) := by decide +kernel
theorem d_Md_begin_2 : decode b_Md_begin 2 = .ok (.putfield 96, 3) := by decide +kernel
theorem d_Md_begin_5 : decode b_Md_begin 5 = .ok (.aload_n 0, 1) := by decide +kernel
theorem d_Md_begin_6 : decode b_Md_begin 6 = .ok (.ldc 100, 2) := by decide +kernel
theorem d_Md_begin_8 : decode b_Md_begin 8 = .ok (.putfield 101, 3) := by decide +kernel
theorem d_Md_begin_11 : decode b_Md_begin 11 = .ok (.aload_n 0, 1) := by decide +kernel
theorem d_Md_begin_12 : decode b_Md_begin 12 = .ok (.iconst 0, 1) := by decide +kernel
theorem d_Md_begin_13 : decode b_Md_begin 13 = .ok (.putfield 104, 3) := by decide +kernel
theorem d_Md_begin_16 : decode b_Md_begin 16 = .ok (.iconst 0, 1) := by decide +kernel
theorem d_Md_begin_17 : decode b_Md_begin 17 = .ok (.istore_n 2, 1) := by decide +kernel
theorem d_Md_begin_18 : decode b_Md_begin 18 = .ok (.iload_n 2, 1) := by decide +kernel
theorem d_Md_begin_19 : decode b_Md_begin 19 = .ok (.bipush 48, 2) := by decide +kernel
theorem d_Md_begin_21 : decode b_Md_begin 21 = .ok (.if_icmp .ge 23, 3) := by decide +kernel
theorem d_Md_begin_24 : decode b_Md_begin 24 = .ok (.aload_n 0, 1) := by decide +kernel
theorem d_Md_begin_25 : decode b_Md_begin 25 = .ok (.getfield 50, 3) := by decide +kernel
theorem d_Md_begin_28 : decode b_Md_begin 28 = .ok (.iload_n 2, 1) := by decide +kernel
theorem d_Md_begin_29 : decode b_Md_begin 29 = .ok (.iconst 1, 1) := by decide +kernel
theorem d_Md_begin_30 : decode b_Md_begin 30 = .ok (.iastore, 1) := by decide +kernel
theorem d_Md_begin_31 : decode b_Md_begin 31 = .ok (.aload_n 0, 1) := by decide +kernel
theorem d_Md_begin_32 : decode b_Md_begin 32 = .ok (.getfield 53, 3) := by decide +kernel
theorem d_Md_begin_35 : decode b_Md_begin 35 = .ok (.iload_n 2, 1) := by decide +kernel
theorem d_Md_begin_36 : decode b_Md_begin 36 = .ok (.iconst 1, 1) := by decide +kernel
theorem d_Md_begin_37 : decode b_Md_begin 37 = .ok (.iastore, 1) := by decide +kernel
theorem d_Md_begin_38 : decode b_Md_begin 38 = .ok (.iinc 2 1, 3) := by decide +kernel
theorem d_Md_begin_41 : decode b_Md_begin 41 = .ok (.goto (-23), 3) := by decide +kernel
theorem d_Md_begin_44 : decode b_Md_begin 44 = .ok (.iconst 0, 1) := by decide +kernel
theorem d_Md_begin_45 : decode b_Md_begin 45 = .ok (.istore_n 2, 1) := by decide +kernel
theorem d_Md_begin_46 : decode b_Md_begin 46 = .ok (.iload_n 2, 1) := by decide +kernel
theorem d_Md_begin_47 : decode b_Md_begin 47 = .ok (.sipush 4400, 3) := by decide +kernel
theorem d_Md_begin_50 : decode b_Md_begin 50 = .ok (.if_icmp .ge 16, 3) := by decide +kernel
theorem d_Md_begin_53 : decode b_Md_begin 53 = .ok (.aload_n 0, 1) := by decide +kernel
theorem d_Md_begin_54 : decode b_Md_begin 54 = .ok (.getfield 56, 3) := by decide +kernel
theorem d_Md_begin_57 : decode b_Md_begin 57 = .ok (.iload_n 2, 1) := by decide +kernel
theorem d_Md_begin_58 : decode b_Md_begin 58 = .ok (.iconst 0, 1) := by decide +kernel
theorem d_Md_begin_59 : decode b_Md_begin 59 = .ok (.iastore, 1) := by decide +kernel
theorem d_Md_begin_60 : decode b_Md_begin 60 = .ok (.iinc 2 1, 3) := by decide +kernel
theorem d_Md_begin_63 : decode b_Md_begin 63 = .ok (.goto (-17), 3) := by decide +kernel
theorem d_Md_begin_66 : decode b_Md_begin 66 = .ok (.return_, 1) := by decide +kernel
theorem d_Md_load_0 : decode b_Md_load 0 = .ok (.aload_n 0, 1) := by decide +kernel
theorem d_Md_load_1 : decode b_Md_load 1 = .ok (.iconst 1, 1) := by decide +kernel
theorem d_Md_load_2 : decode b_Md_load 2 = .ok (.invokevirtual 107, 3) := by decide +kernel
theorem d_Md_load_5 : decode b_Md_load 5 = .ok (.iconst 0, 1) := by decide +kernel
theorem d_Md_load_6 : decode b_Md_load 6 = .ok (.istore_n 3, 1) := by decide +kernel
theorem d_Md_load_7 : decode b_Md_load 7 = .ok (.iload_n 3, 1) := by decide +kernel
theorem d_Md_load_8 : decode b_Md_load 8 = .ok (.bipush 8, 2) := by decide +kernel
theorem d_Md_load_10 : decode b_Md_load 10 = .ok (.iload_n 2, 1) := by decide +kernel
theorem d_Md_load_11 : decode b_Md_load 11 = .ok (.imul, 1) := by decide +kernel
theorem d_Md_load_12 : decode b_Md_load 12 = .ok (.if_icmp .ge 43, 3) := by decide +kernel
theorem d_Md_load_15 : decode b_Md_load 15 = .ok (.iload_n 3, 1) := by decide +kernel
theorem d_Md_load_16 : decode b_Md_load 16 = .ok (.sipush 4400, 3) := by decide +kernel
theorem d_Md_load_19 : decode b_Md_load 19 = .ok (.if_icmp .ge 36, 3) := by decide +kernel
theorem d_Md_load_22 : decode b_Md_load 22 = .ok (.aload_n 0, 1) := by decide +kernel
theorem d_Md_load_23 : decode b_Md_load 23 = .ok (.getfield 56, 3) := by decide +kernel
theorem d_Md_load_26 : decode b_Md_load 26 = .ok (.iload_n 3, 1) := by decide +kernel
theorem d_Md_load_27 : decode b_Md_load 27 = .ok (.aload_n 0, 1) := by decide +kernel
theorem d_Md_load_28 : decode b_Md_load 28 = .ok (.getfield 32, 3) := by decide +kernel
theorem d_Md_load_31 : decode b_Md_load 31 = .ok (.iload_n 1, 1) := by decide +kernel
theorem d_Md_load_32 : decode b_Md_load 32 = .ok (.iload_n 3, 1) := by decide +kernel
theorem d_Md_load_33 : decode b_Md_load 33 = .ok (.bipush 8, 2) := by decide +kernel
theorem d_Md_load_35 : decode b_Md_load 35 = .ok (.idiv, 1) := by decide +kernel
theorem d_Md_load_36 : decode b_Md_load 36 = .ok (.iadd, 1) := by decide +kernel
theorem d_Md_load_37 : decode b_Md_load 37 = .ok (.iaload, 1) := by decide +kernel
theorem d_Md_load_38 : decode b_Md_load 38 = .ok (.bipush 7, 2) := by decide +kernel
theorem d_Md_load_40 : decode b_Md_load 40 = .ok (.iload_n 3, 1) := by decide +kernel
theorem d_Md_load_41 : decode b_Md_load 41 = .ok (.bipush 8, 2) := by decide +kernel
theorem d_Md_load_43 : decode b_Md_load 43 = .ok (.irem, 1) := by decide +kernel
theorem d_Md_load_44 : decode b_Md_load 44 = .ok (.isub, 1) := by decide +kernel
theorem d_Md_load_45 : decode b_Md_load 45 = .ok (.ishr, 1) := by decide +kernel
theorem d_Md_load_46 : decode b_Md_load 46 = .ok (.iconst 1, 1) := by decide +kernel
theorem d_Md_load_47 : decode b_Md_load 47 = .ok (.iand, 1) := by decide +kernel
theorem d_Md_load_48 : decode b_Md_load 48 = .ok (.iastore, 1) := by decide +kernel
theorem d_Md_load_49 : decode b_Md_load 49 = .ok (.iinc 3 1, 3) := by decide +kernel
theorem d_Md_load_52 : decode b_Md_load 52 = .ok (.goto (-45), 3) := by decide +kernel
theorem d_Md_load_55 : decode b_Md_load 55 = .ok (.return_, 1) := by decide +kernel
theorem d_Md_shift_0 : decode b_Md_shift 0 = .ok (.iconst 0, 1) := by decide +kernel
theorem d_Md_shift_1 : decode b_Md_shift 1 = .ok (.istore_n 3, 1) := by decide +kernel
theorem d_Md_shift_2 : decode b_Md_shift 2 = .ok (.iload_n 1, 1) := by decide +kernel
theorem d_Md_shift_3 : decode b_Md_shift 3 = .ok (.istore 4, 2) := by decide +kernel
theorem d_Md_shift_5 : decode b_Md_shift 5 = .ok (.aload_n 0, 1) := by decide +kernel
theorem d_Md_shift_6 : decode b_Md_shift 6 = .ok (.getfield 104, 3) := by decide +kernel
theorem d_Md_shift_9 : decode b_Md_shift 9 = .ok (.bipush 15, 2) := by decide +kernel
theorem d_Md_shift_11 : decode b_Md_shift 11 = .ok (.iadd, 1) := by decide +kernel
theorem d_Md_shift_12 : decode b_Md_shift 12 = .ok (.istore 5, 2) := by decide +kernel
theorem d_Md_shift_14 : decode b_Md_shift 14 = .ok (.iload 5, 2) := by decide +kernel
theorem d_Md_shift_16 : decode b_Md_shift 16 = .ok (.ifCond .lt 49, 3) := by decide +kernel
theorem d_Md_shift_19 : decode b_Md_shift 19 = .ok (.aload_n 0, 1) := by decide +kernel
theorem d_Md_shift_20 : decode b_Md_shift 20 = .ok (.getfield 56, 3) := by decide +kernel
theorem d_Md_shift_23 : decode b_Md_shift 23 = .ok (.iload 5, 2) := by decide +kernel
theorem d_Md_shift_25 : decode b_Md_shift 25 = .ok (.iaload, 1) := by decide +kernel
theorem d_Md_shift_26 : decode b_Md_shift 26 = .ok (.iload_n 2, 1) := by decide +kernel
theorem d_Md_shift_27 : decode b_Md_shift 27 = .ok (.iload 4, 2) := by decide +kernel
theorem d_Md_shift_29 : decode b_Md_shift 29 = .ok (.iconst 2, 1) := by decide +kernel
theorem d_Md_shift_30 : decode b_Md_shift 30 = .ok (.irem, 1) := by decide +kernel
theorem d_Md_shift_31 : decode b_Md_shift 31 = .ok (.imul, 1) := by decide +kernel
theorem d_Md_shift_32 : decode b_Md_shift 32 = .ok (.iadd, 1) := by decide +kernel
theorem d_Md_shift_33 : decode b_Md_shift 33 = .ok (.iload_n 3, 1) := by decide +kernel
theorem d_Md_shift_34 : decode b_Md_shift 34 = .ok (.iadd, 1) := by decide +kernel
theorem d_Md_shift_35 : decode b_Md_shift 35 = .ok (.istore 6, 2) := by decide +kernel
theorem d_Md_shift_37 : decode b_Md_shift 37 = .ok (.iload 4, 2) := by decide +kernel
theorem d_Md_shift_39 : decode b_Md_shift 39 = .ok (.iconst 2, 1) := by decide +kernel
theorem d_Md_shift_40 : decode b_Md_shift 40 = .ok (.idiv, 1) := by decide +kernel
theorem d_Md_shift_41 : decode b_Md_shift 41 = .ok (.istore 4, 2) := by decide +kernel
theorem d_Md_shift_43 : decode b_Md_shift 43 = .ok (.aload_n 0, 1) := by decide +kernel
theorem d_Md_shift_44 : decode b_Md_shift 44 = .ok (.getfield 56, 3) := by decide +kernel
theorem d_Md_shift_47 : decode b_Md_shift 47 = .ok (.iload 5, 2) := by decide +kernel
theorem d_Md_shift_49 : decode b_Md_shift 49 = .ok (.iload 6, 2) := by decide +kernel
theorem d_Md_shift_51 : decode b_Md_shift 51 = .ok (.iconst 1, 1) := by decide +kernel
theorem d_Md_shift_52 : decode b_Md_shift 52 = .ok (.iand, 1) := by decide +kernel
theorem d_Md_shift_53 : decode b_Md_shift 53 = .ok (.iastore, 1) := by decide +kernel
theorem d_Md_shift_54 : decode b_Md_shift 54 = .ok (.iload 6, 2) := by decide +kernel
theorem d_Md_shift_56 : decode b_Md_shift 56 = .ok (.iconst 1, 1) := by decide +kernel
theorem d_Md_shift_57 : decode b_Md_shift 57 = .ok (.ishr, 1) := by decide +kernel
theorem d_Md_shift_58 : decode b_Md_shift 58 = .ok (.istore_n 3, 1) := by decide +kernel
theorem d_Md_shift_59 : decode b_Md_shift 59 = .ok (.iinc 5 (-1), 3) := by decide +kernel
theorem d_Md_shift_62 : decode b_Md_shift 62 = .ok (.goto (-48), 3) := by decide +kernel
theorem d_Md_shift_65 : decode b_Md_shift 65 = .ok (.return_, 1) := by decide +kernel
theorem d_Md_units_0 : decode b_Md_units 0 = .ok (.iconst 0, 1) := by decide +kernel
theorem d_Md_units_1 : decode b_Md_units 1 = .ok (.istore_n 1, 1) := by decide +kernel
theorem d_Md_units_2 : decode b_Md_units 2 = .ok (.iconst 0, 1) := by decide +kernel
theorem d_Md_units_3 : decode b_Md_units 3 = .ok (.istore_n 2, 1) := by decide +kernel
theorem d_Md_units_4 : decode b_Md_units 4 = .ok (.iload_n 2, 1) := by decide +kernel
theorem d_Md_units_5 : decode b_Md_units 5 = .ok (.bipush 16, 2) := by decide +kernel
theorem d_Md_units_7 : decode b_Md_units 7 = .ok (.if_icmp .ge 25, 3) := by decide +kernel
theorem d_Md_units_10 : decode b_Md_units 10 = .ok (.iconst 2, 1) := by decide +kernel
theorem d_Md_units_11 : decode b_Md_units 11 = .ok (.iload_n 1, 1) := by decide +kernel
theorem d_Md_units_12 : decode b_Md_units 12 = .ok (.imul, 1) := by decide +kernel
theorem d_Md_units_13 : decode b_Md_units 13 = .ok (.aload_n 0, 1) := by decide +kernel
theorem d_Md_units_14 : decode b_Md_units 14 = .ok (.getfield 56, 3) := by decide +kernel
theorem d_Md_units_17 : decode b_Md_units 17 = .ok (.aload_n 0, 1) := by decide +kernel
theorem d_Md_units_18 : decode b_Md_units 18 = .ok (.getfield 104, 3) := by decide +kernel
theorem d_Md_units_21 : decode b_Md_units 21 = .ok (.iload_n 2, 1) := by decide +kernel
theorem d_Md_units_22 : decode b_Md_units 22 = .ok (.iadd, 1) := by decide +kernel
theorem d_Md_units_23 : decode b_Md_units 23 = .ok (.iaload, 1) := by decide +kernel
theorem d_Md_units_24 : decode b_Md_units 24 = .ok (.iadd, 1) := by decide +kernel
theorem d_Md_units_25 : decode b_Md_units 25 = .ok (.istore_n 1, 1) := by decide +kernel
theorem d_Md_units_26 : decode b_Md_units 26 = .ok (.iinc 2 1, 3) := by decide +kernel
theorem d_Md_units_29 : decode b_Md_units 29 = .ok (.goto (-25), 3) := by decide +kernel
theorem d_Md_units_32 : decode b_Md_units 32 = .ok (.iload_n 1, 1) := by decide +kernel
theorem d_Md_units_33 : decode b_Md_units 33 = .ok (.ireturn, 1) := by decide +kernel
theorem d_Md_code_0 : decode b_Md_code 0 = .ok (.aload_n 0, 1) := by decide +kernel
theorem d_Md_code_1 : decode b_Md_code 1 = .ok (.getfield 101, 3) := by decide +kernel
theorem d_Md_code_4 : decode b_Md_code 4 = .ok (.aload_n 0, 1) := by decide +kernel
theorem d_Md_code_5 : decode b_Md_code 5 = .ok (.getfield 50, 3) := by decide +kernel
theorem d_Md_code_8 : decode b_Md_code 8 = .ok (.iload_n 1, 1) := by decide +kernel
theorem d_Md_code_9 : decode b_Md_code 9 = .ok (.iaload, 1) := by decide +kernel
theorem d_Md_code_10 : decode b_Md_code 10 = .ok (.imul, 1) := by decide +kernel
theorem d_Md_code_11 : decode b_Md_code 11 = .ok (.aload_n 0, 1) := by decide +kernel
theorem d_Md_code_12 : decode b_Md_code 12 = .ok (.getfield 50, 3) := by decide +kernel
theorem d_Md_code_15 : decode b_Md_code 15 = .ok (.iload_n 1, 1) := by decide +kernel
theorem d_Md_code_16 : decode b_Md_code 16 = .ok (.iaload, 1) := by decide +kernel
theorem d_Md_code_17 : decode b_Md_code 17 = .ok (.aload_n 0, 1) := by decide +kernel
theorem d_Md_code_18 : decode b_Md_code 18 = .ok (.getfield 53, 3) := by decide +kernel
theorem d_Md_code_21 : decode b_Md_code 21 = .ok (.iload_n 1, 1) := by decide +kernel
theorem d_Md_code_22 : decode b_Md_code 22 = .ok (.iaload, 1) := by decide +kernel
theorem d_Md_code_23 : decode b_Md_code 23 = .ok (.iadd, 1) := by decide +kernel
theorem d_Md_code_24 : decode b_Md_code 24 = .ok (.idiv, 1) := by decide +kernel
theorem d_Md_code_25 : decode b_Md_code 25 = .ok (.istore_n 3, 1) := by decide +kernel
theorem d_Md_code_26 : decode b_Md_code 26 = .ok (.iload_n 2, 1) := by decide +kernel
theorem d_Md_code_27 : decode b_Md_code 27 = .ok (.istore 4, 2) := by decide +kernel
theorem d_Md_code_29 : decode b_Md_code 29 = .ok (.aload_n 0, 1) := by decide +kernel
theorem d_Md_code_30 : decode b_Md_code 30 = .ok (.getfield 96, 3) := by decide +kernel
theorem d_Md_code_33 : decode b_Md_code 33 = .ok (.ifCond .eq 18, 3) := by decide +kernel
theorem d_Md_code_36 : decode b_Md_code 36 = .ok (.aload_n 0, 1) := by decide +kernel
theorem d_Md_code_37 : decode b_Md_code 37 = .ok (.invokevirtual 111, 3) := by decide +kernel
theorem d_Md_code_40 : decode b_Md_code 40 = .ok (.iload_n 3, 1) := by decide +kernel
theorem d_Md_code_41 : decode b_Md_code 41 = .ok (.if_icmp .lt 7, 3) := by decide +kernel
theorem d_Md_code_44 : decode b_Md_code 44 = .ok (.iconst 1, 1) := by decide +kernel
theorem d_Md_code_45 : decode b_Md_code 45 = .ok (.goto 4, 3) := by decide +kernel
theorem d_Md_code_48 : decode b_Md_code 48 = .ok (.iconst 0, 1) := by decide +kernel
theorem d_Md_code_49 : decode b_Md_code 49 = .ok (.istore 4, 2) := by decide +kernel
theorem d_Md_code_51 : decode b_Md_code 51 = .ok (.iload 4, 2) := by decide +kernel
theorem d_Md_code_53 : decode b_Md_code 53 = .ok (.iconst 1, 1) := by decide +kernel
theorem d_Md_code_54 : decode b_Md_code 54 = .ok (.if_icmp .ne 43, 3) := by decide +kernel
theorem d_Md_code_57 : decode b_Md_code 57 = .ok (.aload_n 0, 1) := by decide +kernel
theorem d_Md_code_58 : decode b_Md_code 58 = .ok (.iload_n 3, 1) := by decide +kernel
theorem d_Md_code_59 : decode b_Md_code 59 = .ok (.aload_n 0, 1) := by decide +kernel
theorem d_Md_code_60 : decode b_Md_code 60 = .ok (.getfield 96, 3) := by decide +kernel
theorem d_Md_code_63 : decode b_Md_code 63 = .ok (.ifCond .eq 7, 3) := by decide +kernel
theorem d_Md_code_66 : decode b_Md_code 66 = .ok (.iconst (-1), 1) := by decide +kernel
theorem d_Md_code_67 : decode b_Md_code 67 = .ok (.goto 4, 3) := by decide +kernel
theorem d_Md_code_70 : decode b_Md_code 70 = .ok (.iconst 1, 1) := by decide +kernel
theorem d_Md_code_71 : decode b_Md_code 71 = .ok (.invokevirtual 115, 3) := by decide +kernel
theorem d_Md_code_74 : decode b_Md_code 74 = .ok (.aload_n 0, 1) := by decide +kernel
theorem d_Md_code_75 : decode b_Md_code 75 = .ok (.dup, 1) := by decide +kernel
theorem d_Md_code_76 : decode b_Md_code 76 = .ok (.getfield 101, 3) := by decide +kernel
theorem d_Md_code_79 : decode b_Md_code 79 = .ok (.iload_n 3, 1) := by decide +kernel
theorem d_Md_code_80 : decode b_Md_code 80 = .ok (.isub, 1) := by decide +kernel
theorem d_Md_code_81 : decode b_Md_code 81 = .ok (.putfield 101, 3) := by decide +kernel
theorem d_Md_code_84 : decode b_Md_code 84 = .ok (.aload_n 0, 1) := by decide +kernel
theorem d_Md_code_85 : decode b_Md_code 85 = .ok (.getfield 53, 3) := by decide +kernel
theorem d_Md_code_88 : decode b_Md_code 88 = .ok (.iload_n 1, 1) := by decide +kernel
theorem d_Md_code_89 : decode b_Md_code 89 = .ok (.dup2, 1) := by decide +kernel
theorem d_Md_code_90 : decode b_Md_code 90 = .ok (.iaload, 1) := by decide +kernel
theorem d_Md_code_91 : decode b_Md_code 91 = .ok (.iconst 1, 1) := by decide +kernel
theorem d_Md_code_92 : decode b_Md_code 92 = .ok (.iadd, 1) := by decide +kernel
theorem d_Md_code_93 : decode b_Md_code 93 = .ok (.iastore, 1) := by decide +kernel
theorem d_Md_code_94 : decode b_Md_code 94 = .ok (.goto 18, 3) := by decide +kernel
theorem d_Md_code_97 : decode b_Md_code 97 = .ok (.aload_n 0, 1) := by decide +kernel
theorem d_Md_code_98 : decode b_Md_code 98 = .ok (.iload_n 3, 1) := by decide +kernel
theorem d_Md_code_99 : decode b_Md_code 99 = .ok (.putfield 101, 3) := by decide +kernel
theorem d_Md_code_102 : decode b_Md_code 102 = .ok (.aload_n 0, 1) := by decide +kernel
theorem d_Md_code_103 : decode b_Md_code 103 = .ok (.getfield 50, 3) := by decide +kernel
theorem d_Md_code_106 : decode b_Md_code 106 = .ok (.iload_n 1, 1) := by decide +kernel
theorem d_Md_code_107 : decode b_Md_code 107 = .ok (.dup2, 1) := by decide +kernel
theorem d_Md_code_108 : decode b_Md_code 108 = .ok (.iaload, 1) := by decide +kernel
theorem d_Md_code_109 : decode b_Md_code 109 = .ok (.iconst 1, 1) := by decide +kernel
theorem d_Md_code_110 : decode b_Md_code 110 = .ok (.iadd, 1) := by decide +kernel
theorem d_Md_code_111 : decode b_Md_code 111 = .ok (.iastore, 1) := by decide +kernel
theorem d_Md_code_112 : decode b_Md_code 112 = .ok (.aload_n 0, 1) := by decide +kernel
theorem d_Md_code_113 : decode b_Md_code 113 = .ok (.getfield 50, 3) := by decide +kernel
theorem d_Md_code_116 : decode b_Md_code 116 = .ok (.iload_n 1, 1) := by decide +kernel
theorem d_Md_code_117 : decode b_Md_code 117 = .ok (.iaload, 1) := by decide +kernel
theorem d_Md_code_118 : decode b_Md_code 118 = .ok (.aload_n 0, 1) := by decide +kernel
theorem d_Md_code_119 : decode b_Md_code 119 = .ok (.getfield 53, 3) := by decide +kernel
theorem d_Md_code_122 : decode b_Md_code 122 = .ok (.iload_n 1, 1) := by decide +kernel
theorem d_Md_code_123 : decode b_Md_code 123 = .ok (.iaload, 1) := by decide +kernel
theorem d_Md_code_124 : decode b_Md_code 124 = .ok (.iadd, 1) := by decide +kernel
theorem d_Md_code_125 : decode b_Md_code 125 = .ok (.bipush 32, 2) := by decide +kernel
theorem d_Md_code_127 : decode b_Md_code 127 = .ok (.if_icmp .ne 35, 3) := by decide +kernel
theorem d_Md_code_130 : decode b_Md_code 130 = .ok (.aload_n 0, 1) := by decide +kernel
theorem d_Md_code_131 : decode b_Md_code 131 = .ok (.getfield 50, 3) := by decide +kernel
theorem d_Md_code_134 : decode b_Md_code 134 = .ok (.iload_n 1, 1) := by decide +kernel
theorem d_Md_code_135 : decode b_Md_code 135 = .ok (.aload_n 0, 1) := by decide +kernel
theorem d_Md_code_136 : decode b_Md_code 136 = .ok (.getfield 50, 3) := by decide +kernel
theorem d_Md_code_139 : decode b_Md_code 139 = .ok (.iload_n 1, 1) := by decide +kernel
theorem d_Md_code_140 : decode b_Md_code 140 = .ok (.iaload, 1) := by decide +kernel
theorem d_Md_code_141 : decode b_Md_code 141 = .ok (.iconst 1, 1) := by decide +kernel
theorem d_Md_code_142 : decode b_Md_code 142 = .ok (.iadd, 1) := by decide +kernel
theorem d_Md_code_143 : decode b_Md_code 143 = .ok (.iconst 2, 1) := by decide +kernel
theorem d_Md_code_144 : decode b_Md_code 144 = .ok (.idiv, 1) := by decide +kernel
theorem d_Md_code_145 : decode b_Md_code 145 = .ok (.iastore, 1) := by decide +kernel
theorem d_Md_code_146 : decode b_Md_code 146 = .ok (.aload_n 0, 1) := by decide +kernel
theorem d_Md_code_147 : decode b_Md_code 147 = .ok (.getfield 53, 3) := by decide +kernel
theorem d_Md_code_150 : decode b_Md_code 150 = .ok (.iload_n 1, 1) := by decide +kernel
theorem d_Md_code_151 : decode b_Md_code 151 = .ok (.aload_n 0, 1) := by decide +kernel
theorem d_Md_code_152 : decode b_Md_code 152 = .ok (.getfield 53, 3) := by decide +kernel
theorem d_Md_code_155 : decode b_Md_code 155 = .ok (.iload_n 1, 1) := by decide +kernel
theorem d_Md_code_156 : decode b_Md_code 156 = .ok (.iaload, 1) := by decide +kernel
theorem d_Md_code_157 : decode b_Md_code 157 = .ok (.iconst 1, 1) := by decide +kernel
theorem d_Md_code_158 : decode b_Md_code 158 = .ok (.iadd, 1) := by decide +kernel
theorem d_Md_code_159 : decode b_Md_code 159 = .ok (.iconst 2, 1) := by decide +kernel
theorem d_Md_code_160 : decode b_Md_code 160 = .ok (.idiv, 1) := by decide +kernel
theorem d_Md_code_161 : decode b_Md_code 161 = .ok (.iastore, 1) := by decide +kernel
theorem d_Md_code_162 : decode b_Md_code 162 = .ok (.iconst 0, 1) := by decide +kernel
theorem d_Md_code_163 : decode b_Md_code 163 = .ok (.istore 5, 2) := by decide +kernel
theorem d_Md_code_165 : decode b_Md_code 165 = .ok (.iload 5, 2) := by decide +kernel
theorem d_Md_code_167 : decode b_Md_code 167 = .ok (.bipush 16, 2) := by decide +kernel
theorem d_Md_code_169 : decode b_Md_code 169 = .ok (.if_icmp .ge 38, 3) := by decide +kernel
theorem d_Md_code_172 : decode b_Md_code 172 = .ok (.aload_n 0, 1) := by decide +kernel
theorem d_Md_code_173 : decode b_Md_code 173 = .ok (.getfield 101, 3) := by decide +kernel
theorem d_Md_code_176 : decode b_Md_code 176 = .ok (.ldc 119, 2) := by decide +kernel
theorem d_Md_code_178 : decode b_Md_code 178 = .ok (.if_icmp .gt 29, 3) := by decide +kernel
theorem d_Md_code_181 : decode b_Md_code 181 = .ok (.aload_n 0, 1) := by decide +kernel
theorem d_Md_code_182 : decode b_Md_code 182 = .ok (.dup, 1) := by decide +kernel
theorem d_Md_code_183 : decode b_Md_code 183 = .ok (.getfield 101, 3) := by decide +kernel
theorem d_Md_code_186 : decode b_Md_code 186 = .ok (.iconst 2, 1) := by decide +kernel
theorem d_Md_code_187 : decode b_Md_code 187 = .ok (.imul, 1) := by decide +kernel
theorem d_Md_code_188 : decode b_Md_code 188 = .ok (.putfield 101, 3) := by decide +kernel
theorem d_Md_code_191 : decode b_Md_code 191 = .ok (.aload_n 0, 1) := by decide +kernel
theorem d_Md_code_192 : decode b_Md_code 192 = .ok (.dup, 1) := by decide +kernel
theorem d_Md_code_193 : decode b_Md_code 193 = .ok (.getfield 104, 3) := by decide +kernel
theorem d_Md_code_196 : decode b_Md_code 196 = .ok (.iconst 1, 1) := by decide +kernel
theorem d_Md_code_197 : decode b_Md_code 197 = .ok (.iadd, 1) := by decide +kernel
theorem d_Md_code_198 : decode b_Md_code 198 = .ok (.putfield 104, 3) := by decide +kernel
theorem d_Md_code_201 : decode b_Md_code 201 = .ok (.iinc 5 1, 3) := by decide +kernel
theorem d_Md_code_204 : decode b_Md_code 204 = .ok (.goto (-39), 3) := by decide +kernel
theorem d_Md_code_207 : decode b_Md_code 207 = .ok (.iload 4, 2) := by decide +kernel
theorem d_Md_code_209 : decode b_Md_code 209 = .ok (.ireturn, 1) := by decide +kernel
end
section
theorem d_Md_put_0 : decode b_Md_put 0 = .ok (.aload_n 0, 1) := by decide +kernel
theorem d_Md_put_1 : decode b_Md_put 1 = .ok (.getfield 32, 3) := by decide +kernel
theorem d_Md_put_4 : decode b_Md_put 4 = .ok (.aload_n 0, 1) := by decide +kernel
theorem d_Md_put_5 : decode b_Md_put 5 = .ok (.getfield 120, 3) := by decide +kernel
theorem d_Md_put_8 : decode b_Md_put 8 = .ok (.iload_n 1, 1) := by decide +kernel
theorem d_Md_put_9 : decode b_Md_put 9 = .ok (.iastore, 1) := by decide +kernel
theorem d_Md_put_10 : decode b_Md_put 10 = .ok (.aload_n 0, 1) := by decide +kernel
theorem d_Md_put_11 : decode b_Md_put 11 = .ok (.dup, 1) := by decide +kernel
theorem d_Md_put_12 : decode b_Md_put 12 = .ok (.getfield 120, 3) := by decide +kernel
theorem d_Md_put_15 : decode b_Md_put 15 = .ok (.iconst 1, 1) := by decide +kernel
theorem d_Md_put_16 : decode b_Md_put 16 = .ok (.iadd, 1) := by decide +kernel
theorem d_Md_put_17 : decode b_Md_put 17 = .ok (.putfield 120, 3) := by decide +kernel
theorem d_Md_put_20 : decode b_Md_put 20 = .ok (.return_, 1) := by decide +kernel
theorem d_Md_putCode_0 : decode b_Md_putCode 0 = .ok (.bipush 16, 2) := by decide +kernel
theorem d_Md_putCode_2 : decode b_Md_putCode 2 = .ok (.aload_n 0, 1) := by decide +kernel
theorem d_Md_putCode_3 : decode b_Md_putCode 3 = .ok (.getfield 104, 3) := by decide +kernel
theorem d_Md_putCode_6 : decode b_Md_putCode 6 = .ok (.iadd, 1) := by decide +kernel
theorem d_Md_putCode_7 : decode b_Md_putCode 7 = .ok (.bipush 7, 2) := by decide +kernel
theorem d_Md_putCode_9 : decode b_Md_putCode 9 = .ok (.iadd, 1) := by decide +kernel
theorem d_Md_putCode_10 : decode b_Md_putCode 10 = .ok (.bipush 8, 2) := by decide +kernel
theorem d_Md_putCode_12 : decode b_Md_putCode 12 = .ok (.idiv, 1) := by decide +kernel
theorem d_Md_putCode_13 : decode b_Md_putCode 13 = .ok (.istore_n 1, 1) := by decide +kernel
theorem d_Md_putCode_14 : decode b_Md_putCode 14 = .ok (.iconst 0, 1) := by decide +kernel
theorem d_Md_putCode_15 : decode b_Md_putCode 15 = .ok (.istore_n 2, 1) := by decide +kernel
theorem d_Md_putCode_16 : decode b_Md_putCode 16 = .ok (.iload_n 2, 1) := by decide +kernel
theorem d_Md_putCode_17 : decode b_Md_putCode 17 = .ok (.iload_n 1, 1) := by decide +kernel
theorem d_Md_putCode_18 : decode b_Md_putCode 18 = .ok (.if_icmp .ge 49, 3) := by decide +kernel
theorem d_Md_putCode_21 : decode b_Md_putCode 21 = .ok (.iconst 0, 1) := by decide +kernel
theorem d_Md_putCode_22 : decode b_Md_putCode 22 = .ok (.istore_n 3, 1) := by decide +kernel
theorem d_Md_putCode_23 : decode b_Md_putCode 23 = .ok (.iconst 0, 1) := by decide +kernel
theorem d_Md_putCode_24 : decode b_Md_putCode 24 = .ok (.istore 4, 2) := by decide +kernel
theorem d_Md_putCode_26 : decode b_Md_putCode 26 = .ok (.iload 4, 2) := by decide +kernel
theorem d_Md_putCode_28 : decode b_Md_putCode 28 = .ok (.bipush 8, 2) := by decide +kernel
theorem d_Md_putCode_30 : decode b_Md_putCode 30 = .ok (.if_icmp .ge 26, 3) := by decide +kernel
theorem d_Md_putCode_33 : decode b_Md_putCode 33 = .ok (.iconst 2, 1) := by decide +kernel
theorem d_Md_putCode_34 : decode b_Md_putCode 34 = .ok (.iload_n 3, 1) := by decide +kernel
theorem d_Md_putCode_35 : decode b_Md_putCode 35 = .ok (.imul, 1) := by decide +kernel
theorem d_Md_putCode_36 : decode b_Md_putCode 36 = .ok (.aload_n 0, 1) := by decide +kernel
theorem d_Md_putCode_37 : decode b_Md_putCode 37 = .ok (.getfield 56, 3) := by decide +kernel
theorem d_Md_putCode_40 : decode b_Md_putCode 40 = .ok (.bipush 8, 2) := by decide +kernel
theorem d_Md_putCode_42 : decode b_Md_putCode 42 = .ok (.iload_n 2, 1) := by decide +kernel
theorem d_Md_putCode_43 : decode b_Md_putCode 43 = .ok (.imul, 1) := by decide +kernel
theorem d_Md_putCode_44 : decode b_Md_putCode 44 = .ok (.iload 4, 2) := by decide +kernel
theorem d_Md_putCode_46 : decode b_Md_putCode 46 = .ok (.iadd, 1) := by decide +kernel
theorem d_Md_putCode_47 : decode b_Md_putCode 47 = .ok (.iaload, 1) := by decide +kernel
theorem d_Md_putCode_48 : decode b_Md_putCode 48 = .ok (.iadd, 1) := by decide +kernel
theorem d_Md_putCode_49 : decode b_Md_putCode 49 = .ok (.istore_n 3, 1) := by decide +kernel
theorem d_Md_putCode_50 : decode b_Md_putCode 50 = .ok (.iinc 4 1, 3) := by decide +kernel
theorem d_Md_putCode_53 : decode b_Md_putCode 53 = .ok (.goto (-27), 3) := by decide +kernel
theorem d_Md_putCode_56 : decode b_Md_putCode 56 = .ok (.aload_n 0, 1) := by decide +kernel
theorem d_Md_putCode_57 : decode b_Md_putCode 57 = .ok (.iload_n 3, 1) := by decide +kernel
theorem d_Md_putCode_58 : decode b_Md_putCode 58 = .ok (.invokevirtual 123, 3) := by decide +kernel
theorem d_Md_putCode_61 : decode b_Md_putCode 61 = .ok (.iinc 2 1, 3) := by decide +kernel
theorem d_Md_putCode_64 : decode b_Md_putCode 64 = .ok (.goto (-48), 3) := by decide +kernel
theorem d_Md_putCode_67 : decode b_Md_putCode 67 = .ok (.return_, 1) := by decide +kernel
theorem d_Md_walk_0 : decode b_Md_walk 0 = .ok (.lconst 0, 1) := by decide +kernel
theorem d_Md_walk_1 : decode b_Md_walk 1 = .ok (.lstore 8, 2) := by decide +kernel
theorem d_Md_walk_3 : decode b_Md_walk 3 = .ok (.iconst 0, 1) := by decide +kernel
theorem d_Md_walk_4 : decode b_Md_walk 4 = .ok (.istore 10, 2) := by decide +kernel
theorem d_Md_walk_6 : decode b_Md_walk 6 = .ok (.iload 10, 2) := by decide +kernel
theorem d_Md_walk_8 : decode b_Md_walk 8 = .ok (.iload 4, 2) := by decide +kernel
theorem d_Md_walk_10 : decode b_Md_walk 10 = .ok (.if_icmp .ge 200, 3) := by decide +kernel
theorem d_Md_walk_13 : decode b_Md_walk 13 = .ok (.iconst 0, 1) := by decide +kernel
theorem d_Md_walk_14 : decode b_Md_walk 14 = .ok (.istore 11, 2) := by decide +kernel
theorem d_Md_walk_16 : decode b_Md_walk 16 = .ok (.iload 11, 2) := by decide +kernel
theorem d_Md_walk_18 : decode b_Md_walk 18 = .ok (.iload_n 3, 1) := by decide +kernel
theorem d_Md_walk_19 : decode b_Md_walk 19 = .ok (.if_icmp .ge 185, 3) := by decide +kernel
theorem d_Md_walk_22 : decode b_Md_walk 22 = .ok (.lload 8, 2) := by decide +kernel
theorem d_Md_walk_24 : decode b_Md_walk 24 = .ok (.iload 11, 2) := by decide +kernel
theorem d_Md_walk_26 : decode b_Md_walk 26 = .ok (.iconst 1, 1) := by decide +kernel
theorem d_Md_walk_27 : decode b_Md_walk 27 = .ok (.isub, 1) := by decide +kernel
theorem d_Md_walk_28 : decode b_Md_walk 28 = .ok (.iload 10, 2) := by decide +kernel
theorem d_Md_walk_30 : decode b_Md_walk 30 = .ok (.invokestatic 83, 3) := by decide +kernel
theorem d_Md_walk_33 : decode b_Md_walk 33 = .ok (.istore 12, 2) := by decide +kernel
theorem d_Md_walk_35 : decode b_Md_walk 35 = .ok (.iload 5, 2) := by decide +kernel
theorem d_Md_walk_37 : decode b_Md_walk 37 = .ok (.ifCond .eq 73, 3) := by decide +kernel
theorem d_Md_walk_40 : decode b_Md_walk 40 = .ok (.iload 12, 2) := by decide +kernel
theorem d_Md_walk_42 : decode b_Md_walk 42 = .ok (.bipush 16, 2) := by decide +kernel
theorem d_Md_walk_44 : decode b_Md_walk 44 = .ok (.iconst 2, 1) := by decide +kernel
theorem d_Md_walk_45 : decode b_Md_walk 45 = .ok (.lload 8, 2) := by decide +kernel
theorem d_Md_walk_47 : decode b_Md_walk 47 = .ok (.iload 11, 2) := by decide +kernel
theorem d_Md_walk_49 : decode b_Md_walk 49 = .ok (.iload 10, 2) := by decide +kernel
theorem d_Md_walk_51 : decode b_Md_walk 51 = .ok (.iconst 1, 1) := by decide +kernel
theorem d_Md_walk_52 : decode b_Md_walk 52 = .ok (.isub, 1) := by decide +kernel
theorem d_Md_walk_53 : decode b_Md_walk 53 = .ok (.invokestatic 83, 3) := by decide +kernel
theorem d_Md_walk_56 : decode b_Md_walk 56 = .ok (.imul, 1) := by decide +kernel
theorem d_Md_walk_57 : decode b_Md_walk 57 = .ok (.iadd, 1) := by decide +kernel
theorem d_Md_walk_58 : decode b_Md_walk 58 = .ok (.iconst 4, 1) := by decide +kernel
theorem d_Md_walk_59 : decode b_Md_walk 59 = .ok (.lload 6, 2) := by decide +kernel
theorem d_Md_walk_61 : decode b_Md_walk 61 = .ok (.iload 11, 2) := by decide +kernel
theorem d_Md_walk_63 : decode b_Md_walk 63 = .ok (.iload 10, 2) := by decide +kernel
theorem d_Md_walk_65 : decode b_Md_walk 65 = .ok (.invokestatic 83, 3) := by decide +kernel
theorem d_Md_walk_68 : decode b_Md_walk 68 = .ok (.imul, 1) := by decide +kernel
theorem d_Md_walk_69 : decode b_Md_walk 69 = .ok (.iadd, 1) := by decide +kernel
theorem d_Md_walk_70 : decode b_Md_walk 70 = .ok (.iadd, 1) := by decide +kernel
theorem d_Md_walk_71 : decode b_Md_walk 71 = .ok (.istore 12, 2) := by decide +kernel
theorem d_Md_walk_73 : decode b_Md_walk 73 = .ok (.iload 12, 2) := by decide +kernel
theorem d_Md_walk_75 : decode b_Md_walk 75 = .ok (.bipush 8, 2) := by decide +kernel
theorem d_Md_walk_77 : decode b_Md_walk 77 = .ok (.lload 6, 2) := by decide +kernel
theorem d_Md_walk_79 : decode b_Md_walk 79 = .ok (.iload 11, 2) := by decide +kernel
theorem d_Md_walk_81 : decode b_Md_walk 81 = .ok (.iconst 1, 1) := by decide +kernel
theorem d_Md_walk_82 : decode b_Md_walk 82 = .ok (.iadd, 1) := by decide +kernel
theorem d_Md_walk_83 : decode b_Md_walk 83 = .ok (.iload 10, 2) := by decide +kernel
theorem d_Md_walk_85 : decode b_Md_walk 85 = .ok (.invokestatic 83, 3) := by decide +kernel
theorem d_Md_walk_88 : decode b_Md_walk 88 = .ok (.imul, 1) := by decide +kernel
theorem d_Md_walk_89 : decode b_Md_walk 89 = .ok (.bipush 16, 2) := by decide +kernel
theorem d_Md_walk_91 : decode b_Md_walk 91 = .ok (.lload 6, 2) := by decide +kernel
theorem d_Md_walk_93 : decode b_Md_walk 93 = .ok (.iload 11, 2) := by decide +kernel
theorem d_Md_walk_95 : decode b_Md_walk 95 = .ok (.iload 10, 2) := by decide +kernel
theorem d_Md_walk_97 : decode b_Md_walk 97 = .ok (.iconst 1, 1) := by decide +kernel
theorem d_Md_walk_98 : decode b_Md_walk 98 = .ok (.iadd, 1) := by decide +kernel
theorem d_Md_walk_99 : decode b_Md_walk 99 = .ok (.invokestatic 83, 3) := by decide +kernel
theorem d_Md_walk_102 : decode b_Md_walk 102 = .ok (.imul, 1) := by decide +kernel
theorem d_Md_walk_103 : decode b_Md_walk 103 = .ok (.iadd, 1) := by decide +kernel
theorem d_Md_walk_104 : decode b_Md_walk 104 = .ok (.iadd, 1) := by decide +kernel
theorem d_Md_walk_105 : decode b_Md_walk 105 = .ok (.istore 12, 2) := by decide +kernel
theorem d_Md_walk_107 : decode b_Md_walk 107 = .ok (.goto 58, 3) := by decide +kernel
theorem d_Md_walk_110 : decode b_Md_walk 110 = .ok (.iload 12, 2) := by decide +kernel
theorem d_Md_walk_112 : decode b_Md_walk 112 = .ok (.iconst 2, 1) := by decide +kernel
theorem d_Md_walk_113 : decode b_Md_walk 113 = .ok (.lload 8, 2) := by decide +kernel
theorem d_Md_walk_115 : decode b_Md_walk 115 = .ok (.iload 11, 2) := by decide +kernel
theorem d_Md_walk_117 : decode b_Md_walk 117 = .ok (.iconst 1, 1) := by decide +kernel
theorem d_Md_walk_118 : decode b_Md_walk 118 = .ok (.isub, 1) := by decide +kernel
theorem d_Md_walk_119 : decode b_Md_walk 119 = .ok (.iload 10, 2) := by decide +kernel
theorem d_Md_walk_121 : decode b_Md_walk 121 = .ok (.iconst 1, 1) := by decide +kernel
theorem d_Md_walk_122 : decode b_Md_walk 122 = .ok (.isub, 1) := by decide +kernel
theorem d_Md_walk_123 : decode b_Md_walk 123 = .ok (.invokestatic 83, 3) := by decide +kernel
theorem d_Md_walk_126 : decode b_Md_walk 126 = .ok (.imul, 1) := by decide +kernel
theorem d_Md_walk_127 : decode b_Md_walk 127 = .ok (.iconst 4, 1) := by decide +kernel
theorem d_Md_walk_128 : decode b_Md_walk 128 = .ok (.lload 8, 2) := by decide +kernel
theorem d_Md_walk_130 : decode b_Md_walk 130 = .ok (.iload 11, 2) := by decide +kernel
theorem d_Md_walk_132 : decode b_Md_walk 132 = .ok (.iload 10, 2) := by decide +kernel
theorem d_Md_walk_134 : decode b_Md_walk 134 = .ok (.iconst 1, 1) := by decide +kernel
theorem d_Md_walk_135 : decode b_Md_walk 135 = .ok (.isub, 1) := by decide +kernel
theorem d_Md_walk_136 : decode b_Md_walk 136 = .ok (.invokestatic 83, 3) := by decide +kernel
theorem d_Md_walk_139 : decode b_Md_walk 139 = .ok (.imul, 1) := by decide +kernel
theorem d_Md_walk_140 : decode b_Md_walk 140 = .ok (.iadd, 1) := by decide +kernel
theorem d_Md_walk_141 : decode b_Md_walk 141 = .ok (.iadd, 1) := by decide +kernel
theorem d_Md_walk_142 : decode b_Md_walk 142 = .ok (.istore 12, 2) := by decide +kernel
theorem d_Md_walk_144 : decode b_Md_walk 144 = .ok (.iload 12, 2) := by decide +kernel
theorem d_Md_walk_146 : decode b_Md_walk 146 = .ok (.bipush 8, 2) := by decide +kernel
theorem d_Md_walk_148 : decode b_Md_walk 148 = .ok (.lload 8, 2) := by decide +kernel
theorem d_Md_walk_150 : decode b_Md_walk 150 = .ok (.iload 11, 2) := by decide +kernel
theorem d_Md_walk_152 : decode b_Md_walk 152 = .ok (.iconst 1, 1) := by decide +kernel
theorem d_Md_walk_153 : decode b_Md_walk 153 = .ok (.iadd, 1) := by decide +kernel
theorem d_Md_walk_154 : decode b_Md_walk 154 = .ok (.iload 10, 2) := by decide +kernel
theorem d_Md_walk_156 : decode b_Md_walk 156 = .ok (.iconst 1, 1) := by decide +kernel
theorem d_Md_walk_157 : decode b_Md_walk 157 = .ok (.isub, 1) := by decide +kernel
theorem d_Md_walk_158 : decode b_Md_walk 158 = .ok (.invokestatic 83, 3) := by decide +kernel
theorem d_Md_walk_161 : decode b_Md_walk 161 = .ok (.imul, 1) := by decide +kernel
theorem d_Md_walk_162 : decode b_Md_walk 162 = .ok (.iadd, 1) := by decide +kernel
theorem d_Md_walk_163 : decode b_Md_walk 163 = .ok (.istore 12, 2) := by decide +kernel
theorem d_Md_walk_165 : decode b_Md_walk 165 = .ok (.aload_n 0, 1) := by decide +kernel
theorem d_Md_walk_166 : decode b_Md_walk 166 = .ok (.iload 12, 2) := by decide +kernel
theorem d_Md_walk_168 : decode b_Md_walk 168 = .ok (.lload_n 1, 1) := by decide +kernel
theorem d_Md_walk_169 : decode b_Md_walk 169 = .ok (.iload 11, 2) := by decide +kernel
theorem d_Md_walk_171 : decode b_Md_walk 171 = .ok (.iload 10, 2) := by decide +kernel
theorem d_Md_walk_173 : decode b_Md_walk 173 = .ok (.invokestatic 83, 3) := by decide +kernel
theorem d_Md_walk_176 : decode b_Md_walk 176 = .ok (.invokevirtual 127, 3) := by decide +kernel
theorem d_Md_walk_179 : decode b_Md_walk 179 = .ok (.istore 13, 2) := by decide +kernel
theorem d_Md_walk_181 : decode b_Md_walk 181 = .ok (.lload 8, 2) := by decide +kernel
theorem d_Md_walk_183 : decode b_Md_walk 183 = .ok (.iload 13, 2) := by decide +kernel
theorem d_Md_walk_185 : decode b_Md_walk 185 = .ok (.i2l, 1) := by decide +kernel
theorem d_Md_walk_186 : decode b_Md_walk 186 = .ok (.bipush 8, 2) := by decide +kernel
theorem d_Md_walk_188 : decode b_Md_walk 188 = .ok (.iload 10, 2) := by decide +kernel
theorem d_Md_walk_190 : decode b_Md_walk 190 = .ok (.imul, 1) := by decide +kernel
theorem d_Md_walk_191 : decode b_Md_walk 191 = .ok (.iload 11, 2) := by decide +kernel
theorem d_Md_walk_193 : decode b_Md_walk 193 = .ok (.iadd, 1) := by decide +kernel
theorem d_Md_walk_194 : decode b_Md_walk 194 = .ok (.lshl, 1) := by decide +kernel
theorem d_Md_walk_195 : decode b_Md_walk 195 = .ok (.lor, 1) := by decide +kernel
theorem d_Md_walk_196 : decode b_Md_walk 196 = .ok (.lstore 8, 2) := by decide +kernel
theorem d_Md_walk_198 : decode b_Md_walk 198 = .ok (.iinc 11 1, 3) := by decide +kernel
theorem d_Md_walk_201 : decode b_Md_walk 201 = .ok (.goto (-185), 3) := by decide +kernel
theorem d_Md_walk_204 : decode b_Md_walk 204 = .ok (.iinc 10 1, 3) := by decide +kernel
theorem d_Md_walk_207 : decode b_Md_walk 207 = .ok (.goto (-201), 3) := by decide +kernel
theorem d_Md_walk_210 : decode b_Md_walk 210 = .ok (.lload 8, 2) := by decide +kernel
theorem d_Md_walk_212 : decode b_Md_walk 212 = .ok (.lreturn, 1) := by decide +kernel
theorem d_Md_planes_0 : decode b_Md_planes 0 = .ok (.iconst 0, 1) := by decide +kernel
theorem d_Md_planes_1 : decode b_Md_planes 1 = .ok (.istore_n 3, 1) := by decide +kernel
theorem d_Md_planes_2 : decode b_Md_planes 2 = .ok (.iload_n 3, 1) := by decide +kernel
theorem d_Md_planes_3 : decode b_Md_planes 3 = .ok (.bipush 64, 2) := by decide +kernel
theorem d_Md_planes_5 : decode b_Md_planes 5 = .ok (.if_icmp .ge 36, 3) := by decide +kernel
theorem d_Md_planes_8 : decode b_Md_planes 8 = .ok (.aload_n 0, 1) := by decide +kernel
theorem d_Md_planes_9 : decode b_Md_planes 9 = .ok (.getfield 68, 3) := by decide +kernel
theorem d_Md_planes_12 : decode b_Md_planes 12 = .ok (.iload_n 3, 1) := by decide +kernel
theorem d_Md_planes_13 : decode b_Md_planes 13 = .ok (.iconst 0, 1) := by decide +kernel
theorem d_Md_planes_14 : decode b_Md_planes 14 = .ok (.iastore, 1) := by decide +kernel
theorem d_Md_planes_15 : decode b_Md_planes 15 = .ok (.aload_n 0, 1) := by decide +kernel
theorem d_Md_planes_16 : decode b_Md_planes 16 = .ok (.getfield 71, 3) := by decide +kernel
theorem d_Md_planes_19 : decode b_Md_planes 19 = .ok (.iload_n 3, 1) := by decide +kernel
theorem d_Md_planes_20 : decode b_Md_planes 20 = .ok (.aload_n 0, 1) := by decide +kernel
theorem d_Md_planes_21 : decode b_Md_planes 21 = .ok (.getfield 59, 3) := by decide +kernel
theorem d_Md_planes_24 : decode b_Md_planes 24 = .ok (.iload_n 3, 1) := by decide +kernel
theorem d_Md_planes_25 : decode b_Md_planes 25 = .ok (.iaload, 1) := by decide +kernel
theorem d_Md_planes_26 : decode b_Md_planes 26 = .ok (.ifCond .ge 7, 3) := by decide +kernel
theorem d_Md_planes_29 : decode b_Md_planes 29 = .ok (.iconst 1, 1) := by decide +kernel
theorem d_Md_planes_30 : decode b_Md_planes 30 = .ok (.goto 4, 3) := by decide +kernel
theorem d_Md_planes_33 : decode b_Md_planes 33 = .ok (.iconst 0, 1) := by decide +kernel
theorem d_Md_planes_34 : decode b_Md_planes 34 = .ok (.bastore, 1) := by decide +kernel
theorem d_Md_planes_35 : decode b_Md_planes 35 = .ok (.iinc 3 1, 3) := by decide +kernel
theorem d_Md_planes_38 : decode b_Md_planes 38 = .ok (.goto (-36), 3) := by decide +kernel
theorem d_Md_planes_41 : decode b_Md_planes 41 = .ok (.bipush 9, 2) := by decide +kernel
theorem d_Md_planes_43 : decode b_Md_planes 43 = .ok (.istore_n 3, 1) := by decide +kernel
theorem d_Md_planes_44 : decode b_Md_planes 44 = .ok (.iload_n 3, 1) := by decide +kernel
theorem d_Md_planes_45 : decode b_Md_planes 45 = .ok (.bipush 9, 2) := by decide +kernel
theorem d_Md_planes_47 : decode b_Md_planes 47 = .ok (.iload_n 2, 1) := by decide +kernel
theorem d_Md_planes_48 : decode b_Md_planes 48 = .ok (.isub, 1) := by decide +kernel
theorem d_Md_planes_49 : decode b_Md_planes 49 = .ok (.if_icmp .le 236, 3) := by decide +kernel
theorem d_Md_planes_52 : decode b_Md_planes 52 = .ok (.iconst 0, 1) := by decide +kernel
theorem d_Md_planes_53 : decode b_Md_planes 53 = .ok (.istore 4, 2) := by decide +kernel
theorem d_Md_planes_55 : decode b_Md_planes 55 = .ok (.iload 4, 2) := by decide +kernel
theorem d_Md_planes_57 : decode b_Md_planes 57 = .ok (.iload_n 1, 1) := by decide +kernel
theorem d_Md_planes_58 : decode b_Md_planes 58 = .ok (.iload_n 1, 1) := by decide +kernel
theorem d_Md_planes_59 : decode b_Md_planes 59 = .ok (.imul, 1) := by decide +kernel
theorem d_Md_planes_60 : decode b_Md_planes 60 = .ok (.if_icmp .ge 219, 3) := by decide +kernel
theorem d_Md_planes_63 : decode b_Md_planes 63 = .ok (.iload 4, 2) := by decide +kernel
theorem d_Md_planes_65 : decode b_Md_planes 65 = .ok (.iload_n 1, 1) := by decide +kernel
theorem d_Md_planes_66 : decode b_Md_planes 66 = .ok (.irem, 1) := by decide +kernel
theorem d_Md_planes_67 : decode b_Md_planes 67 = .ok (.istore 5, 2) := by decide +kernel
theorem d_Md_planes_69 : decode b_Md_planes 69 = .ok (.iload 4, 2) := by decide +kernel
theorem d_Md_planes_71 : decode b_Md_planes 71 = .ok (.iload_n 1, 1) := by decide +kernel
theorem d_Md_planes_72 : decode b_Md_planes 72 = .ok (.idiv, 1) := by decide +kernel
theorem d_Md_planes_73 : decode b_Md_planes 73 = .ok (.istore 6, 2) := by decide +kernel
theorem d_Md_planes_75 : decode b_Md_planes 75 = .ok (.bipush 8, 2) := by decide +kernel
theorem d_Md_planes_77 : decode b_Md_planes 77 = .ok (.iload 6, 2) := by decide +kernel
theorem d_Md_planes_79 : decode b_Md_planes 79 = .ok (.imul, 1) := by decide +kernel
theorem d_Md_planes_80 : decode b_Md_planes 80 = .ok (.iload 5, 2) := by decide +kernel
theorem d_Md_planes_82 : decode b_Md_planes 82 = .ok (.iadd, 1) := by decide +kernel
theorem d_Md_planes_83 : decode b_Md_planes 83 = .ok (.istore 7, 2) := by decide +kernel
theorem d_Md_planes_85 : decode b_Md_planes 85 = .ok (.aload_n 0, 1) := by decide +kernel
theorem d_Md_planes_86 : decode b_Md_planes 86 = .ok (.getfield 59, 3) := by decide +kernel
theorem d_Md_planes_89 : decode b_Md_planes 89 = .ok (.iload 7, 2) := by decide +kernel
theorem d_Md_planes_91 : decode b_Md_planes 91 = .ok (.iaload, 1) := by decide +kernel
theorem d_Md_planes_92 : decode b_Md_planes 92 = .ok (.ifCond .ge 14, 3) := by decide +kernel
theorem d_Md_planes_95 : decode b_Md_planes 95 = .ok (.aload_n 0, 1) := by decide +kernel
theorem d_Md_planes_96 : decode b_Md_planes 96 = .ok (.getfield 59, 3) := by decide +kernel
theorem d_Md_planes_99 : decode b_Md_planes 99 = .ok (.iload 7, 2) := by decide +kernel
theorem d_Md_planes_101 : decode b_Md_planes 101 = .ok (.iaload, 1) := by decide +kernel
theorem d_Md_planes_102 : decode b_Md_planes 102 = .ok (.ineg, 1) := by decide +kernel
theorem d_Md_planes_103 : decode b_Md_planes 103 = .ok (.goto 10, 3) := by decide +kernel
theorem d_Md_planes_106 : decode b_Md_planes 106 = .ok (.aload_n 0, 1) := by decide +kernel
theorem d_Md_planes_107 : decode b_Md_planes 107 = .ok (.getfield 59, 3) := by decide +kernel
theorem d_Md_planes_110 : decode b_Md_planes 110 = .ok (.iload 7, 2) := by decide +kernel
theorem d_Md_planes_112 : decode b_Md_planes 112 = .ok (.iaload, 1) := by decide +kernel
theorem d_Md_planes_113 : decode b_Md_planes 113 = .ok (.istore 8, 2) := by decide +kernel
theorem d_Md_planes_115 : decode b_Md_planes 115 = .ok (.iload 5, 2) := by decide +kernel
theorem d_Md_planes_117 : decode b_Md_planes 117 = .ok (.ifCond .le 19, 3) := by decide +kernel
theorem d_Md_planes_120 : decode b_Md_planes 120 = .ok (.aload_n 0, 1) := by decide +kernel
theorem d_Md_planes_121 : decode b_Md_planes 121 = .ok (.getfield 68, 3) := by decide +kernel
theorem d_Md_planes_124 : decode b_Md_planes 124 = .ok (.iload 7, 2) := by decide +kernel
theorem d_Md_planes_126 : decode b_Md_planes 126 = .ok (.iconst 1, 1) := by decide +kernel
theorem d_Md_planes_127 : decode b_Md_planes 127 = .ok (.isub, 1) := by decide +kernel
theorem d_Md_planes_128 : decode b_Md_planes 128 = .ok (.iaload, 1) := by decide +kernel
theorem d_Md_planes_129 : decode b_Md_planes 129 = .ok (.ifCond .le 7, 3) := by decide +kernel
theorem d_Md_planes_132 : decode b_Md_planes 132 = .ok (.iconst 1, 1) := by decide +kernel
theorem d_Md_planes_133 : decode b_Md_planes 133 = .ok (.goto 4, 3) := by decide +kernel
theorem d_Md_planes_136 : decode b_Md_planes 136 = .ok (.iconst 0, 1) := by decide +kernel
theorem d_Md_planes_137 : decode b_Md_planes 137 = .ok (.iload 6, 2) := by decide +kernel
theorem d_Md_planes_139 : decode b_Md_planes 139 = .ok (.ifCond .le 20, 3) := by decide +kernel
theorem d_Md_planes_142 : decode b_Md_planes 142 = .ok (.aload_n 0, 1) := by decide +kernel
theorem d_Md_planes_143 : decode b_Md_planes 143 = .ok (.getfield 68, 3) := by decide +kernel
theorem d_Md_planes_146 : decode b_Md_planes 146 = .ok (.iload 7, 2) := by decide +kernel
theorem d_Md_planes_148 : decode b_Md_planes 148 = .ok (.bipush 8, 2) := by decide +kernel
theorem d_Md_planes_150 : decode b_Md_planes 150 = .ok (.isub, 1) := by decide +kernel
theorem d_Md_planes_151 : decode b_Md_planes 151 = .ok (.iaload, 1) := by decide +kernel
theorem d_Md_planes_152 : decode b_Md_planes 152 = .ok (.ifCond .le 7, 3) := by decide +kernel
theorem d_Md_planes_155 : decode b_Md_planes 155 = .ok (.iconst 1, 1) := by decide +kernel
theorem d_Md_planes_156 : decode b_Md_planes 156 = .ok (.goto 4, 3) := by decide +kernel
theorem d_Md_planes_159 : decode b_Md_planes 159 = .ok (.iconst 0, 1) := by decide +kernel
theorem d_Md_planes_160 : decode b_Md_planes 160 = .ok (.iadd, 1) := by decide +kernel
theorem d_Md_planes_161 : decode b_Md_planes 161 = .ok (.istore 9, 2) := by decide +kernel
theorem d_Md_planes_163 : decode b_Md_planes 163 = .ok (.aload_n 0, 1) := by decide +kernel
theorem d_Md_planes_164 : decode b_Md_planes 164 = .ok (.getfield 68, 3) := by decide +kernel
theorem d_Md_planes_167 : decode b_Md_planes 167 = .ok (.iload 7, 2) := by decide +kernel
theorem d_Md_planes_169 : decode b_Md_planes 169 = .ok (.iaload, 1) := by decide +kernel
theorem d_Md_planes_170 : decode b_Md_planes 170 = .ok (.ifCond .ne 7, 3) := by decide +kernel
theorem d_Md_planes_173 : decode b_Md_planes 173 = .ok (.iconst 1, 1) := by decide +kernel
theorem d_Md_planes_174 : decode b_Md_planes 174 = .ok (.goto 4, 3) := by decide +kernel
theorem d_Md_planes_177 : decode b_Md_planes 177 = .ok (.iconst 0, 1) := by decide +kernel
theorem d_Md_planes_178 : decode b_Md_planes 178 = .ok (.istore 10, 2) := by decide +kernel
theorem d_Md_planes_180 : decode b_Md_planes 180 = .ok (.aload_n 0, 1) := by decide +kernel
theorem d_Md_planes_181 : decode b_Md_planes 181 = .ok (.iload 10, 2) := by decide +kernel
theorem d_Md_planes_183 : decode b_Md_planes 183 = .ok (.ifCond .eq 8, 3) := by decide +kernel
theorem d_Md_planes_186 : decode b_Md_planes 186 = .ok (.iload 9, 2) := by decide +kernel
theorem d_Md_planes_188 : decode b_Md_planes 188 = .ok (.goto 4, 3) := by decide +kernel
theorem d_Md_planes_191 : decode b_Md_planes 191 = .ok (.iconst 4, 1) := by decide +kernel
theorem d_Md_planes_192 : decode b_Md_planes 192 = .ok (.iload 8, 2) := by decide +kernel
theorem d_Md_planes_194 : decode b_Md_planes 194 = .ok (.iload_n 3, 1) := by decide +kernel
theorem d_Md_planes_195 : decode b_Md_planes 195 = .ok (.ishr, 1) := by decide +kernel
theorem d_Md_planes_196 : decode b_Md_planes 196 = .ok (.iconst 1, 1) := by decide +kernel
theorem d_Md_planes_197 : decode b_Md_planes 197 = .ok (.iand, 1) := by decide +kernel
theorem d_Md_planes_198 : decode b_Md_planes 198 = .ok (.invokevirtual 127, 3) := by decide +kernel
theorem d_Md_planes_201 : decode b_Md_planes 201 = .ok (.istore 11, 2) := by decide +kernel
theorem d_Md_planes_203 : decode b_Md_planes 203 = .ok (.aload_n 0, 1) := by decide +kernel
theorem d_Md_planes_204 : decode b_Md_planes 204 = .ok (.getfield 68, 3) := by decide +kernel
theorem d_Md_planes_207 : decode b_Md_planes 207 = .ok (.iload 7, 2) := by decide +kernel
theorem d_Md_planes_209 : decode b_Md_planes 209 = .ok (.iconst 2, 1) := by decide +kernel
theorem d_Md_planes_210 : decode b_Md_planes 210 = .ok (.aload_n 0, 1) := by decide +kernel
theorem d_Md_planes_211 : decode b_Md_planes 211 = .ok (.getfield 68, 3) := by decide +kernel
theorem d_Md_planes_214 : decode b_Md_planes 214 = .ok (.iload 7, 2) := by decide +kernel
theorem d_Md_planes_216 : decode b_Md_planes 216 = .ok (.iaload, 1) := by decide +kernel
theorem d_Md_planes_217 : decode b_Md_planes 217 = .ok (.imul, 1) := by decide +kernel
theorem d_Md_planes_218 : decode b_Md_planes 218 = .ok (.iload 11, 2) := by decide +kernel
theorem d_Md_planes_220 : decode b_Md_planes 220 = .ok (.iadd, 1) := by decide +kernel
theorem d_Md_planes_221 : decode b_Md_planes 221 = .ok (.iastore, 1) := by decide +kernel
theorem d_Md_planes_222 : decode b_Md_planes 222 = .ok (.iload 10, 2) := by decide +kernel
theorem d_Md_planes_224 : decode b_Md_planes 224 = .ok (.ifCond .eq 49, 3) := by decide +kernel
theorem d_Md_planes_227 : decode b_Md_planes 227 = .ok (.iload 11, 2) := by decide +kernel
theorem d_Md_planes_229 : decode b_Md_planes 229 = .ok (.iconst 1, 1) := by decide +kernel
theorem d_Md_planes_230 : decode b_Md_planes 230 = .ok (.if_icmp .ne 43, 3) := by decide +kernel
theorem d_Md_planes_233 : decode b_Md_planes 233 = .ok (.aload_n 0, 1) := by decide +kernel
theorem d_Md_planes_234 : decode b_Md_planes 234 = .ok (.iconst 3, 1) := by decide +kernel
theorem d_Md_planes_235 : decode b_Md_planes 235 = .ok (.aload_n 0, 1) := by decide +kernel
theorem d_Md_planes_236 : decode b_Md_planes 236 = .ok (.getfield 71, 3) := by decide +kernel
theorem d_Md_planes_239 : decode b_Md_planes 239 = .ok (.iload 7, 2) := by decide +kernel
theorem d_Md_planes_241 : decode b_Md_planes 241 = .ok (.baload, 1) := by decide +kernel
theorem d_Md_planes_242 : decode b_Md_planes 242 = .ok (.ifCond .eq 7, 3) := by decide +kernel
theorem d_Md_planes_245 : decode b_Md_planes 245 = .ok (.iconst 1, 1) := by decide +kernel
theorem d_Md_planes_246 : decode b_Md_planes 246 = .ok (.goto 4, 3) := by decide +kernel
theorem d_Md_planes_249 : decode b_Md_planes 249 = .ok (.iconst 0, 1) := by decide +kernel
theorem d_Md_planes_250 : decode b_Md_planes 250 = .ok (.invokevirtual 127, 3) := by decide +kernel
theorem d_Md_planes_253 : decode b_Md_planes 253 = .ok (.istore 12, 2) := by decide +kernel
theorem d_Md_planes_255 : decode b_Md_planes 255 = .ok (.aload_n 0, 1) := by decide +kernel
theorem d_Md_planes_256 : decode b_Md_planes 256 = .ok (.getfield 71, 3) := by decide +kernel
theorem d_Md_planes_259 : decode b_Md_planes 259 = .ok (.iload 7, 2) := by decide +kernel
theorem d_Md_planes_261 : decode b_Md_planes 261 = .ok (.iload 12, 2) := by decide +kernel
theorem d_Md_planes_263 : decode b_Md_planes 263 = .ok (.iconst 1, 1) := by decide +kernel
theorem d_Md_planes_264 : decode b_Md_planes 264 = .ok (.if_icmp .ne 7, 3) := by decide +kernel
theorem d_Md_planes_267 : decode b_Md_planes 267 = .ok (.iconst 1, 1) := by decide +kernel
theorem d_Md_planes_268 : decode b_Md_planes 268 = .ok (.goto 4, 3) := by decide +kernel
theorem d_Md_planes_271 : decode b_Md_planes 271 = .ok (.iconst 0, 1) := by decide +kernel
theorem d_Md_planes_272 : decode b_Md_planes 272 = .ok (.bastore, 1) := by decide +kernel
theorem d_Md_planes_273 : decode b_Md_planes 273 = .ok (.iinc 4 1, 3) := by decide +kernel
theorem d_Md_planes_276 : decode b_Md_planes 276 = .ok (.goto (-221), 3) := by decide +kernel
theorem d_Md_planes_279 : decode b_Md_planes 279 = .ok (.iinc 3 (-1), 3) := by decide +kernel
theorem d_Md_planes_282 : decode b_Md_planes 282 = .ok (.goto (-238), 3) := by decide +kernel
theorem d_Md_planes_285 : decode b_Md_planes 285 = .ok (.return_, 1) := by decide +kernel
theorem d_Md_half_0 : decode b_Md_half 0 = .ok (.iload_n 0, 1) := by decide +kernel
theorem d_Md_half_1 : decode b_Md_half 1 = .ok (.iconst 1, 1) := by decide +kernel
theorem d_Md_half_2 : decode b_Md_half 2 = .ok (.ishr, 1) := by decide +kernel
theorem d_Md_half_3 : decode b_Md_half 3 = .ok (.ireturn, 1) := by decide +kernel
theorem d_Md_lift_0 : decode b_Md_lift 0 = .ok (.iload_n 1, 1) := by decide +kernel
theorem d_Md_lift_1 : decode b_Md_lift 1 = .ok (.iconst 2, 1) := by decide +kernel
theorem d_Md_lift_2 : decode b_Md_lift 2 = .ok (.idiv, 1) := by decide +kernel
theorem d_Md_lift_3 : decode b_Md_lift 3 = .ok (.istore_n 2, 1) := by decide +kernel
theorem d_Md_lift_4 : decode b_Md_lift 4 = .ok (.iconst 0, 1) := by decide +kernel
theorem d_Md_lift_5 : decode b_Md_lift 5 = .ok (.istore_n 3, 1) := by decide +kernel
theorem d_Md_lift_6 : decode b_Md_lift 6 = .ok (.iload_n 3, 1) := by decide +kernel
theorem d_Md_lift_7 : decode b_Md_lift 7 = .ok (.iload_n 2, 1) := by decide +kernel
theorem d_Md_lift_8 : decode b_Md_lift 8 = .ok (.if_icmp .ge 72, 3) := by decide +kernel
theorem d_Md_lift_11 : decode b_Md_lift 11 = .ok (.iload_n 3, 1) := by decide +kernel
theorem d_Md_lift_12 : decode b_Md_lift 12 = .ok (.iload_n 2, 1) := by decide +kernel
theorem d_Md_lift_13 : decode b_Md_lift 13 = .ok (.iconst 1, 1) := by decide +kernel
theorem d_Md_lift_14 : decode b_Md_lift 14 = .ok (.isub, 1) := by decide +kernel
theorem d_Md_lift_15 : decode b_Md_lift 15 = .ok (.if_icmp .ne 14, 3) := by decide +kernel
theorem d_Md_lift_18 : decode b_Md_lift 18 = .ok (.aload_n 0, 1) := by decide +kernel
theorem d_Md_lift_19 : decode b_Md_lift 19 = .ok (.getfield 62, 3) := by decide +kernel
theorem d_Md_lift_22 : decode b_Md_lift 22 = .ok (.iload_n 1, 1) := by decide +kernel
theorem d_Md_lift_23 : decode b_Md_lift 23 = .ok (.iconst 2, 1) := by decide +kernel
theorem d_Md_lift_24 : decode b_Md_lift 24 = .ok (.isub, 1) := by decide +kernel
theorem d_Md_lift_25 : decode b_Md_lift 25 = .ok (.iaload, 1) := by decide +kernel
theorem d_Md_lift_26 : decode b_Md_lift 26 = .ok (.goto 13, 3) := by decide +kernel
theorem d_Md_lift_29 : decode b_Md_lift 29 = .ok (.aload_n 0, 1) := by decide +kernel
theorem d_Md_lift_30 : decode b_Md_lift 30 = .ok (.getfield 62, 3) := by decide +kernel
theorem d_Md_lift_33 : decode b_Md_lift 33 = .ok (.iconst 2, 1) := by decide +kernel
theorem d_Md_lift_34 : decode b_Md_lift 34 = .ok (.iload_n 3, 1) := by decide +kernel
theorem d_Md_lift_35 : decode b_Md_lift 35 = .ok (.imul, 1) := by decide +kernel
theorem d_Md_lift_36 : decode b_Md_lift 36 = .ok (.iconst 2, 1) := by decide +kernel
theorem d_Md_lift_37 : decode b_Md_lift 37 = .ok (.iadd, 1) := by decide +kernel
theorem d_Md_lift_38 : decode b_Md_lift 38 = .ok (.iaload, 1) := by decide +kernel
theorem d_Md_lift_39 : decode b_Md_lift 39 = .ok (.istore 4, 2) := by decide +kernel
theorem d_Md_lift_41 : decode b_Md_lift 41 = .ok (.aload_n 0, 1) := by decide +kernel
theorem d_Md_lift_42 : decode b_Md_lift 42 = .ok (.getfield 65, 3) := by decide +kernel
theorem d_Md_lift_45 : decode b_Md_lift 45 = .ok (.iload_n 2, 1) := by decide +kernel
theorem d_Md_lift_46 : decode b_Md_lift 46 = .ok (.iload_n 3, 1) := by decide +kernel
theorem d_Md_lift_47 : decode b_Md_lift 47 = .ok (.iadd, 1) := by decide +kernel
theorem d_Md_lift_48 : decode b_Md_lift 48 = .ok (.aload_n 0, 1) := by decide +kernel
theorem d_Md_lift_49 : decode b_Md_lift 49 = .ok (.getfield 62, 3) := by decide +kernel
theorem d_Md_lift_52 : decode b_Md_lift 52 = .ok (.iconst 2, 1) := by decide +kernel
theorem d_Md_lift_53 : decode b_Md_lift 53 = .ok (.iload_n 3, 1) := by decide +kernel
theorem d_Md_lift_54 : decode b_Md_lift 54 = .ok (.imul, 1) := by decide +kernel
theorem d_Md_lift_55 : decode b_Md_lift 55 = .ok (.iconst 1, 1) := by decide +kernel
theorem d_Md_lift_56 : decode b_Md_lift 56 = .ok (.iadd, 1) := by decide +kernel
theorem d_Md_lift_57 : decode b_Md_lift 57 = .ok (.iaload, 1) := by decide +kernel
theorem d_Md_lift_58 : decode b_Md_lift 58 = .ok (.aload_n 0, 1) := by decide +kernel
theorem d_Md_lift_59 : decode b_Md_lift 59 = .ok (.getfield 62, 3) := by decide +kernel
theorem d_Md_lift_62 : decode b_Md_lift 62 = .ok (.iconst 2, 1) := by decide +kernel
theorem d_Md_lift_63 : decode b_Md_lift 63 = .ok (.iload_n 3, 1) := by decide +kernel
theorem d_Md_lift_64 : decode b_Md_lift 64 = .ok (.imul, 1) := by decide +kernel
theorem d_Md_lift_65 : decode b_Md_lift 65 = .ok (.iaload, 1) := by decide +kernel
theorem d_Md_lift_66 : decode b_Md_lift 66 = .ok (.iload 4, 2) := by decide +kernel
theorem d_Md_lift_68 : decode b_Md_lift 68 = .ok (.iadd, 1) := by decide +kernel
theorem d_Md_lift_69 : decode b_Md_lift 69 = .ok (.invokestatic 131, 3) := by decide +kernel
theorem d_Md_lift_72 : decode b_Md_lift 72 = .ok (.isub, 1) := by decide +kernel
theorem d_Md_lift_73 : decode b_Md_lift 73 = .ok (.iastore, 1) := by decide +kernel
theorem d_Md_lift_74 : decode b_Md_lift 74 = .ok (.iinc 3 1, 3) := by decide +kernel
theorem d_Md_lift_77 : decode b_Md_lift 77 = .ok (.goto (-71), 3) := by decide +kernel
theorem d_Md_lift_80 : decode b_Md_lift 80 = .ok (.iconst 0, 1) := by decide +kernel
theorem d_Md_lift_81 : decode b_Md_lift 81 = .ok (.istore_n 3, 1) := by decide +kernel
theorem d_Md_lift_82 : decode b_Md_lift 82 = .ok (.iload_n 3, 1) := by decide +kernel
theorem d_Md_lift_83 : decode b_Md_lift 83 = .ok (.iload_n 2, 1) := by decide +kernel
theorem d_Md_lift_84 : decode b_Md_lift 84 = .ok (.if_icmp .ge 55, 3) := by decide +kernel
theorem d_Md_lift_87 : decode b_Md_lift 87 = .ok (.aload_n 0, 1) := by decide +kernel
theorem d_Md_lift_88 : decode b_Md_lift 88 = .ok (.getfield 65, 3) := by decide +kernel
theorem d_Md_lift_91 : decode b_Md_lift 91 = .ok (.iload_n 3, 1) := by decide +kernel
theorem d_Md_lift_92 : decode b_Md_lift 92 = .ok (.aload_n 0, 1) := by decide +kernel
theorem d_Md_lift_93 : decode b_Md_lift 93 = .ok (.getfield 62, 3) := by decide +kernel
theorem d_Md_lift_96 : decode b_Md_lift 96 = .ok (.iconst 2, 1) := by decide +kernel
theorem d_Md_lift_97 : decode b_Md_lift 97 = .ok (.iload_n 3, 1) := by decide +kernel
theorem d_Md_lift_98 : decode b_Md_lift 98 = .ok (.imul, 1) := by decide +kernel
theorem d_Md_lift_99 : decode b_Md_lift 99 = .ok (.iaload, 1) := by decide +kernel
theorem d_Md_lift_100 : decode b_Md_lift 100 = .ok (.aload_n 0, 1) := by decide +kernel
theorem d_Md_lift_101 : decode b_Md_lift 101 = .ok (.getfield 65, 3) := by decide +kernel
theorem d_Md_lift_104 : decode b_Md_lift 104 = .ok (.iload_n 2, 1) := by decide +kernel
theorem d_Md_lift_105 : decode b_Md_lift 105 = .ok (.iload_n 3, 1) := by decide +kernel
theorem d_Md_lift_106 : decode b_Md_lift 106 = .ok (.ifCond .ne 7, 3) := by decide +kernel
theorem d_Md_lift_109 : decode b_Md_lift 109 = .ok (.iconst 0, 1) := by decide +kernel
theorem d_Md_lift_110 : decode b_Md_lift 110 = .ok (.goto 6, 3) := by decide +kernel
theorem d_Md_lift_113 : decode b_Md_lift 113 = .ok (.iload_n 3, 1) := by decide +kernel
theorem d_Md_lift_114 : decode b_Md_lift 114 = .ok (.iconst 1, 1) := by decide +kernel
theorem d_Md_lift_115 : decode b_Md_lift 115 = .ok (.isub, 1) := by decide +kernel
theorem d_Md_lift_116 : decode b_Md_lift 116 = .ok (.iadd, 1) := by decide +kernel
theorem d_Md_lift_117 : decode b_Md_lift 117 = .ok (.iaload, 1) := by decide +kernel
theorem d_Md_lift_118 : decode b_Md_lift 118 = .ok (.aload_n 0, 1) := by decide +kernel
theorem d_Md_lift_119 : decode b_Md_lift 119 = .ok (.getfield 65, 3) := by decide +kernel
theorem d_Md_lift_122 : decode b_Md_lift 122 = .ok (.iload_n 2, 1) := by decide +kernel
theorem d_Md_lift_123 : decode b_Md_lift 123 = .ok (.iload_n 3, 1) := by decide +kernel
theorem d_Md_lift_124 : decode b_Md_lift 124 = .ok (.iadd, 1) := by decide +kernel
theorem d_Md_lift_125 : decode b_Md_lift 125 = .ok (.iaload, 1) := by decide +kernel
theorem d_Md_lift_126 : decode b_Md_lift 126 = .ok (.iadd, 1) := by decide +kernel
theorem d_Md_lift_127 : decode b_Md_lift 127 = .ok (.iconst 2, 1) := by decide +kernel
theorem d_Md_lift_128 : decode b_Md_lift 128 = .ok (.iadd, 1) := by decide +kernel
theorem d_Md_lift_129 : decode b_Md_lift 129 = .ok (.iconst 2, 1) := by decide +kernel
theorem d_Md_lift_130 : decode b_Md_lift 130 = .ok (.ishr, 1) := by decide +kernel
theorem d_Md_lift_131 : decode b_Md_lift 131 = .ok (.iadd, 1) := by decide +kernel
theorem d_Md_lift_132 : decode b_Md_lift 132 = .ok (.iastore, 1) := by decide +kernel
theorem d_Md_lift_133 : decode b_Md_lift 133 = .ok (.iinc 3 1, 3) := by decide +kernel
theorem d_Md_lift_136 : decode b_Md_lift 136 = .ok (.goto (-54), 3) := by decide +kernel
theorem d_Md_lift_139 : decode b_Md_lift 139 = .ok (.return_, 1) := by decide +kernel
theorem d_Md_drop_0 : decode b_Md_drop 0 = .ok (.iload_n 1, 1) := by decide +kernel
theorem d_Md_drop_1 : decode b_Md_drop 1 = .ok (.iconst 2, 1) := by decide +kernel
theorem d_Md_drop_2 : decode b_Md_drop 2 = .ok (.idiv, 1) := by decide +kernel
theorem d_Md_drop_3 : decode b_Md_drop 3 = .ok (.istore_n 2, 1) := by decide +kernel
theorem d_Md_drop_4 : decode b_Md_drop 4 = .ok (.iconst 0, 1) := by decide +kernel
theorem d_Md_drop_5 : decode b_Md_drop 5 = .ok (.istore_n 3, 1) := by decide +kernel
theorem d_Md_drop_6 : decode b_Md_drop 6 = .ok (.iload_n 3, 1) := by decide +kernel
theorem d_Md_drop_7 : decode b_Md_drop 7 = .ok (.iload_n 2, 1) := by decide +kernel
theorem d_Md_drop_8 : decode b_Md_drop 8 = .ok (.if_icmp .ge 55, 3) := by decide +kernel
theorem d_Md_drop_11 : decode b_Md_drop 11 = .ok (.aload_n 0, 1) := by decide +kernel
theorem d_Md_drop_12 : decode b_Md_drop 12 = .ok (.getfield 65, 3) := by decide +kernel
theorem d_Md_drop_15 : decode b_Md_drop 15 = .ok (.iconst 2, 1) := by decide +kernel
theorem d_Md_drop_16 : decode b_Md_drop 16 = .ok (.iload_n 3, 1) := by decide +kernel
theorem d_Md_drop_17 : decode b_Md_drop 17 = .ok (.imul, 1) := by decide +kernel
theorem d_Md_drop_18 : decode b_Md_drop 18 = .ok (.aload_n 0, 1) := by decide +kernel
theorem d_Md_drop_19 : decode b_Md_drop 19 = .ok (.getfield 62, 3) := by decide +kernel
theorem d_Md_drop_22 : decode b_Md_drop 22 = .ok (.iload_n 3, 1) := by decide +kernel
theorem d_Md_drop_23 : decode b_Md_drop 23 = .ok (.iaload, 1) := by decide +kernel
theorem d_Md_drop_24 : decode b_Md_drop 24 = .ok (.aload_n 0, 1) := by decide +kernel
theorem d_Md_drop_25 : decode b_Md_drop 25 = .ok (.getfield 62, 3) := by decide +kernel
theorem d_Md_drop_28 : decode b_Md_drop 28 = .ok (.iload_n 2, 1) := by decide +kernel
theorem d_Md_drop_29 : decode b_Md_drop 29 = .ok (.iload_n 3, 1) := by decide +kernel
theorem d_Md_drop_30 : decode b_Md_drop 30 = .ok (.ifCond .ne 7, 3) := by decide +kernel
theorem d_Md_drop_33 : decode b_Md_drop 33 = .ok (.iconst 0, 1) := by decide +kernel
theorem d_Md_drop_34 : decode b_Md_drop 34 = .ok (.goto 6, 3) := by decide +kernel
theorem d_Md_drop_37 : decode b_Md_drop 37 = .ok (.iload_n 3, 1) := by decide +kernel
theorem d_Md_drop_38 : decode b_Md_drop 38 = .ok (.iconst 1, 1) := by decide +kernel
theorem d_Md_drop_39 : decode b_Md_drop 39 = .ok (.isub, 1) := by decide +kernel
theorem d_Md_drop_40 : decode b_Md_drop 40 = .ok (.iadd, 1) := by decide +kernel
theorem d_Md_drop_41 : decode b_Md_drop 41 = .ok (.iaload, 1) := by decide +kernel
theorem d_Md_drop_42 : decode b_Md_drop 42 = .ok (.aload_n 0, 1) := by decide +kernel
theorem d_Md_drop_43 : decode b_Md_drop 43 = .ok (.getfield 62, 3) := by decide +kernel
theorem d_Md_drop_46 : decode b_Md_drop 46 = .ok (.iload_n 2, 1) := by decide +kernel
theorem d_Md_drop_47 : decode b_Md_drop 47 = .ok (.iload_n 3, 1) := by decide +kernel
theorem d_Md_drop_48 : decode b_Md_drop 48 = .ok (.iadd, 1) := by decide +kernel
theorem d_Md_drop_49 : decode b_Md_drop 49 = .ok (.iaload, 1) := by decide +kernel
theorem d_Md_drop_50 : decode b_Md_drop 50 = .ok (.iadd, 1) := by decide +kernel
theorem d_Md_drop_51 : decode b_Md_drop 51 = .ok (.iconst 2, 1) := by decide +kernel
theorem d_Md_drop_52 : decode b_Md_drop 52 = .ok (.iadd, 1) := by decide +kernel
theorem d_Md_drop_53 : decode b_Md_drop 53 = .ok (.iconst 2, 1) := by decide +kernel
theorem d_Md_drop_54 : decode b_Md_drop 54 = .ok (.ishr, 1) := by decide +kernel
theorem d_Md_drop_55 : decode b_Md_drop 55 = .ok (.isub, 1) := by decide +kernel
theorem d_Md_drop_56 : decode b_Md_drop 56 = .ok (.iastore, 1) := by decide +kernel
theorem d_Md_drop_57 : decode b_Md_drop 57 = .ok (.iinc 3 1, 3) := by decide +kernel
theorem d_Md_drop_60 : decode b_Md_drop 60 = .ok (.goto (-54), 3) := by decide +kernel
theorem d_Md_drop_63 : decode b_Md_drop 63 = .ok (.iconst 0, 1) := by decide +kernel
theorem d_Md_drop_64 : decode b_Md_drop 64 = .ok (.istore_n 3, 1) := by decide +kernel
theorem d_Md_drop_65 : decode b_Md_drop 65 = .ok (.iload_n 3, 1) := by decide +kernel
theorem d_Md_drop_66 : decode b_Md_drop 66 = .ok (.iload_n 2, 1) := by decide +kernel
theorem d_Md_drop_67 : decode b_Md_drop 67 = .ok (.if_icmp .ge 72, 3) := by decide +kernel
theorem d_Md_drop_70 : decode b_Md_drop 70 = .ok (.iload_n 3, 1) := by decide +kernel
theorem d_Md_drop_71 : decode b_Md_drop 71 = .ok (.iload_n 2, 1) := by decide +kernel
theorem d_Md_drop_72 : decode b_Md_drop 72 = .ok (.iconst 1, 1) := by decide +kernel
theorem d_Md_drop_73 : decode b_Md_drop 73 = .ok (.isub, 1) := by decide +kernel
theorem d_Md_drop_74 : decode b_Md_drop 74 = .ok (.if_icmp .ne 14, 3) := by decide +kernel
theorem d_Md_drop_77 : decode b_Md_drop 77 = .ok (.aload_n 0, 1) := by decide +kernel
theorem d_Md_drop_78 : decode b_Md_drop 78 = .ok (.getfield 65, 3) := by decide +kernel
theorem d_Md_drop_81 : decode b_Md_drop 81 = .ok (.iload_n 1, 1) := by decide +kernel
theorem d_Md_drop_82 : decode b_Md_drop 82 = .ok (.iconst 2, 1) := by decide +kernel
theorem d_Md_drop_83 : decode b_Md_drop 83 = .ok (.isub, 1) := by decide +kernel
theorem d_Md_drop_84 : decode b_Md_drop 84 = .ok (.iaload, 1) := by decide +kernel
theorem d_Md_drop_85 : decode b_Md_drop 85 = .ok (.goto 13, 3) := by decide +kernel
theorem d_Md_drop_88 : decode b_Md_drop 88 = .ok (.aload_n 0, 1) := by decide +kernel
theorem d_Md_drop_89 : decode b_Md_drop 89 = .ok (.getfield 65, 3) := by decide +kernel
theorem d_Md_drop_92 : decode b_Md_drop 92 = .ok (.iconst 2, 1) := by decide +kernel
theorem d_Md_drop_93 : decode b_Md_drop 93 = .ok (.iload_n 3, 1) := by decide +kernel
theorem d_Md_drop_94 : decode b_Md_drop 94 = .ok (.imul, 1) := by decide +kernel
theorem d_Md_drop_95 : decode b_Md_drop 95 = .ok (.iconst 2, 1) := by decide +kernel
theorem d_Md_drop_96 : decode b_Md_drop 96 = .ok (.iadd, 1) := by decide +kernel
theorem d_Md_drop_97 : decode b_Md_drop 97 = .ok (.iaload, 1) := by decide +kernel
theorem d_Md_drop_98 : decode b_Md_drop 98 = .ok (.istore 4, 2) := by decide +kernel
theorem d_Md_drop_100 : decode b_Md_drop 100 = .ok (.aload_n 0, 1) := by decide +kernel
theorem d_Md_drop_101 : decode b_Md_drop 101 = .ok (.getfield 65, 3) := by decide +kernel
theorem d_Md_drop_104 : decode b_Md_drop 104 = .ok (.iconst 2, 1) := by decide +kernel
theorem d_Md_drop_105 : decode b_Md_drop 105 = .ok (.iload_n 3, 1) := by decide +kernel
theorem d_Md_drop_106 : decode b_Md_drop 106 = .ok (.imul, 1) := by decide +kernel
theorem d_Md_drop_107 : decode b_Md_drop 107 = .ok (.iconst 1, 1) := by decide +kernel
theorem d_Md_drop_108 : decode b_Md_drop 108 = .ok (.iadd, 1) := by decide +kernel
theorem d_Md_drop_109 : decode b_Md_drop 109 = .ok (.aload_n 0, 1) := by decide +kernel
theorem d_Md_drop_110 : decode b_Md_drop 110 = .ok (.getfield 62, 3) := by decide +kernel
theorem d_Md_drop_113 : decode b_Md_drop 113 = .ok (.iload_n 2, 1) := by decide +kernel
theorem d_Md_drop_114 : decode b_Md_drop 114 = .ok (.iload_n 3, 1) := by decide +kernel
theorem d_Md_drop_115 : decode b_Md_drop 115 = .ok (.iadd, 1) := by decide +kernel
theorem d_Md_drop_116 : decode b_Md_drop 116 = .ok (.iaload, 1) := by decide +kernel
theorem d_Md_drop_117 : decode b_Md_drop 117 = .ok (.aload_n 0, 1) := by decide +kernel
theorem d_Md_drop_118 : decode b_Md_drop 118 = .ok (.getfield 65, 3) := by decide +kernel
theorem d_Md_drop_121 : decode b_Md_drop 121 = .ok (.iconst 2, 1) := by decide +kernel
theorem d_Md_drop_122 : decode b_Md_drop 122 = .ok (.iload_n 3, 1) := by decide +kernel
theorem d_Md_drop_123 : decode b_Md_drop 123 = .ok (.imul, 1) := by decide +kernel
theorem d_Md_drop_124 : decode b_Md_drop 124 = .ok (.iaload, 1) := by decide +kernel
theorem d_Md_drop_125 : decode b_Md_drop 125 = .ok (.iload 4, 2) := by decide +kernel
theorem d_Md_drop_127 : decode b_Md_drop 127 = .ok (.iadd, 1) := by decide +kernel
theorem d_Md_drop_128 : decode b_Md_drop 128 = .ok (.invokestatic 131, 3) := by decide +kernel
theorem d_Md_drop_131 : decode b_Md_drop 131 = .ok (.iadd, 1) := by decide +kernel
theorem d_Md_drop_132 : decode b_Md_drop 132 = .ok (.iastore, 1) := by decide +kernel
theorem d_Md_drop_133 : decode b_Md_drop 133 = .ok (.iinc 3 1, 3) := by decide +kernel
theorem d_Md_drop_136 : decode b_Md_drop 136 = .ok (.goto (-71), 3) := by decide +kernel
theorem d_Md_drop_139 : decode b_Md_drop 139 = .ok (.return_, 1) := by decide +kernel
theorem d_Md_all_0 : decode b_Md_all 0 = .ok (.iconst 0, 1) := by decide +kernel
theorem d_Md_all_1 : decode b_Md_all 1 = .ok (.istore 4, 2) := by decide +kernel
theorem d_Md_all_3 : decode b_Md_all 3 = .ok (.iload 4, 2) := by decide +kernel
theorem d_Md_all_5 : decode b_Md_all 5 = .ok (.iload_n 1, 1) := by decide +kernel
theorem d_Md_all_6 : decode b_Md_all 6 = .ok (.if_icmp .ge 126, 3) := by decide +kernel
theorem d_Md_all_9 : decode b_Md_all 9 = .ok (.iconst 0, 1) := by decide +kernel
theorem d_Md_all_10 : decode b_Md_all 10 = .ok (.istore 5, 2) := by decide +kernel
theorem d_Md_all_12 : decode b_Md_all 12 = .ok (.iload 5, 2) := by decide +kernel
theorem d_Md_all_14 : decode b_Md_all 14 = .ok (.iload_n 1, 1) := by decide +kernel
theorem d_Md_all_15 : decode b_Md_all 15 = .ok (.if_icmp .ge 44, 3) := by decide +kernel
theorem d_Md_all_18 : decode b_Md_all 18 = .ok (.aload_n 0, 1) := by decide +kernel
theorem d_Md_all_19 : decode b_Md_all 19 = .ok (.getfield 62, 3) := by decide +kernel
theorem d_Md_all_22 : decode b_Md_all 22 = .ok (.iload 5, 2) := by decide +kernel
theorem d_Md_all_24 : decode b_Md_all 24 = .ok (.aload_n 0, 1) := by decide +kernel
theorem d_Md_all_25 : decode b_Md_all 25 = .ok (.getfield 59, 3) := by decide +kernel
theorem d_Md_all_28 : decode b_Md_all 28 = .ok (.iload_n 2, 1) := by decide +kernel
theorem d_Md_all_29 : decode b_Md_all 29 = .ok (.ifCond .eq 14, 3) := by decide +kernel
theorem d_Md_all_32 : decode b_Md_all 32 = .ok (.bipush 8, 2) := by decide +kernel
theorem d_Md_all_34 : decode b_Md_all 34 = .ok (.iload 4, 2) := by decide +kernel
theorem d_Md_all_36 : decode b_Md_all 36 = .ok (.imul, 1) := by decide +kernel
theorem d_Md_all_37 : decode b_Md_all 37 = .ok (.iload 5, 2) := by decide +kernel
theorem d_Md_all_39 : decode b_Md_all 39 = .ok (.iadd, 1) := by decide +kernel
theorem d_Md_all_40 : decode b_Md_all 40 = .ok (.goto 11, 3) := by decide +kernel
theorem d_Md_all_43 : decode b_Md_all 43 = .ok (.bipush 8, 2) := by decide +kernel
theorem d_Md_all_45 : decode b_Md_all 45 = .ok (.iload 5, 2) := by decide +kernel
theorem d_Md_all_47 : decode b_Md_all 47 = .ok (.imul, 1) := by decide +kernel
theorem d_Md_all_48 : decode b_Md_all 48 = .ok (.iload 4, 2) := by decide +kernel
theorem d_Md_all_50 : decode b_Md_all 50 = .ok (.iadd, 1) := by decide +kernel
theorem d_Md_all_51 : decode b_Md_all 51 = .ok (.iaload, 1) := by decide +kernel
theorem d_Md_all_52 : decode b_Md_all 52 = .ok (.iastore, 1) := by decide +kernel
theorem d_Md_all_53 : decode b_Md_all 53 = .ok (.iinc 5 1, 3) := by decide +kernel
theorem d_Md_all_56 : decode b_Md_all 56 = .ok (.goto (-44), 3) := by decide +kernel
theorem d_Md_all_59 : decode b_Md_all 59 = .ok (.iload_n 3, 1) := by decide +kernel
theorem d_Md_all_60 : decode b_Md_all 60 = .ok (.ifCond .eq 11, 3) := by decide +kernel
theorem d_Md_all_63 : decode b_Md_all 63 = .ok (.aload_n 0, 1) := by decide +kernel
theorem d_Md_all_64 : decode b_Md_all 64 = .ok (.iload_n 1, 1) := by decide +kernel
theorem d_Md_all_65 : decode b_Md_all 65 = .ok (.invokevirtual 134, 3) := by decide +kernel
theorem d_Md_all_68 : decode b_Md_all 68 = .ok (.goto 8, 3) := by decide +kernel
theorem d_Md_all_71 : decode b_Md_all 71 = .ok (.aload_n 0, 1) := by decide +kernel
theorem d_Md_all_72 : decode b_Md_all 72 = .ok (.iload_n 1, 1) := by decide +kernel
theorem d_Md_all_73 : decode b_Md_all 73 = .ok (.invokevirtual 137, 3) := by decide +kernel
theorem d_Md_all_76 : decode b_Md_all 76 = .ok (.iconst 0, 1) := by decide +kernel
theorem d_Md_all_77 : decode b_Md_all 77 = .ok (.istore 5, 2) := by decide +kernel
theorem d_Md_all_79 : decode b_Md_all 79 = .ok (.iload 5, 2) := by decide +kernel
theorem d_Md_all_81 : decode b_Md_all 81 = .ok (.iload_n 1, 1) := by decide +kernel
theorem d_Md_all_82 : decode b_Md_all 82 = .ok (.if_icmp .ge 44, 3) := by decide +kernel
theorem d_Md_all_85 : decode b_Md_all 85 = .ok (.aload_n 0, 1) := by decide +kernel
theorem d_Md_all_86 : decode b_Md_all 86 = .ok (.getfield 59, 3) := by decide +kernel
theorem d_Md_all_89 : decode b_Md_all 89 = .ok (.iload_n 2, 1) := by decide +kernel
theorem d_Md_all_90 : decode b_Md_all 90 = .ok (.ifCond .eq 14, 3) := by decide +kernel
theorem d_Md_all_93 : decode b_Md_all 93 = .ok (.bipush 8, 2) := by decide +kernel
theorem d_Md_all_95 : decode b_Md_all 95 = .ok (.iload 4, 2) := by decide +kernel
theorem d_Md_all_97 : decode b_Md_all 97 = .ok (.imul, 1) := by decide +kernel
theorem d_Md_all_98 : decode b_Md_all 98 = .ok (.iload 5, 2) := by decide +kernel
theorem d_Md_all_100 : decode b_Md_all 100 = .ok (.iadd, 1) := by decide +kernel
theorem d_Md_all_101 : decode b_Md_all 101 = .ok (.goto 11, 3) := by decide +kernel
theorem d_Md_all_104 : decode b_Md_all 104 = .ok (.bipush 8, 2) := by decide +kernel
theorem d_Md_all_106 : decode b_Md_all 106 = .ok (.iload 5, 2) := by decide +kernel
theorem d_Md_all_108 : decode b_Md_all 108 = .ok (.imul, 1) := by decide +kernel
theorem d_Md_all_109 : decode b_Md_all 109 = .ok (.iload 4, 2) := by decide +kernel
theorem d_Md_all_111 : decode b_Md_all 111 = .ok (.iadd, 1) := by decide +kernel
theorem d_Md_all_112 : decode b_Md_all 112 = .ok (.aload_n 0, 1) := by decide +kernel
theorem d_Md_all_113 : decode b_Md_all 113 = .ok (.getfield 65, 3) := by decide +kernel
theorem d_Md_all_116 : decode b_Md_all 116 = .ok (.iload 5, 2) := by decide +kernel
theorem d_Md_all_118 : decode b_Md_all 118 = .ok (.iaload, 1) := by decide +kernel
theorem d_Md_all_119 : decode b_Md_all 119 = .ok (.iastore, 1) := by decide +kernel
theorem d_Md_all_120 : decode b_Md_all 120 = .ok (.iinc 5 1, 3) := by decide +kernel
theorem d_Md_all_123 : decode b_Md_all 123 = .ok (.goto (-44), 3) := by decide +kernel
theorem d_Md_all_126 : decode b_Md_all 126 = .ok (.iinc 4 1, 3) := by decide +kernel
theorem d_Md_all_129 : decode b_Md_all 129 = .ok (.goto (-126), 3) := by decide +kernel
theorem d_Md_all_132 : decode b_Md_all 132 = .ok (.return_, 1) := by decide +kernel
theorem d_Md_close_0 : decode b_Md_close 0 = .ok (.aload_n 0, 1) := by decide +kernel
theorem d_Md_close_1 : decode b_Md_close 1 = .ok (.getfield 32, 3) := by decide +kernel
theorem d_Md_close_4 : decode b_Md_close 4 = .ok (.iload_n 1, 1) := by decide +kernel
theorem d_Md_close_5 : decode b_Md_close 5 = .ok (.iconst 2, 1) := by decide +kernel
theorem d_Md_close_6 : decode b_Md_close 6 = .ok (.isub, 1) := by decide +kernel
theorem d_Md_close_7 : decode b_Md_close 7 = .ok (.aload_n 0, 1) := by decide +kernel
theorem d_Md_close_8 : decode b_Md_close 8 = .ok (.getfield 120, 3) := by decide +kernel
theorem d_Md_close_11 : decode b_Md_close 11 = .ok (.iload_n 1, 1) := by decide +kernel
theorem d_Md_close_12 : decode b_Md_close 12 = .ok (.isub, 1) := by decide +kernel
theorem d_Md_close_13 : decode b_Md_close 13 = .ok (.sipush 256, 3) := by decide +kernel
theorem d_Md_close_16 : decode b_Md_close 16 = .ok (.idiv, 1) := by decide +kernel
theorem d_Md_close_17 : decode b_Md_close 17 = .ok (.iastore, 1) := by decide +kernel
theorem d_Md_close_18 : decode b_Md_close 18 = .ok (.aload_n 0, 1) := by decide +kernel
theorem d_Md_close_19 : decode b_Md_close 19 = .ok (.getfield 32, 3) := by decide +kernel
theorem d_Md_close_22 : decode b_Md_close 22 = .ok (.iload_n 1, 1) := by decide +kernel
theorem d_Md_close_23 : decode b_Md_close 23 = .ok (.iconst 1, 1) := by decide +kernel
theorem d_Md_close_24 : decode b_Md_close 24 = .ok (.isub, 1) := by decide +kernel
theorem d_Md_close_25 : decode b_Md_close 25 = .ok (.aload_n 0, 1) := by decide +kernel
theorem d_Md_close_26 : decode b_Md_close 26 = .ok (.getfield 120, 3) := by decide +kernel
theorem d_Md_close_29 : decode b_Md_close 29 = .ok (.iload_n 1, 1) := by decide +kernel
theorem d_Md_close_30 : decode b_Md_close 30 = .ok (.isub, 1) := by decide +kernel
theorem d_Md_close_31 : decode b_Md_close 31 = .ok (.sipush 256, 3) := by decide +kernel
theorem d_Md_close_34 : decode b_Md_close 34 = .ok (.irem, 1) := by decide +kernel
theorem d_Md_close_35 : decode b_Md_close 35 = .ok (.iastore, 1) := by decide +kernel
theorem d_Md_close_36 : decode b_Md_close 36 = .ok (.return_, 1) := by decide +kernel
theorem d_Md_open_0 : decode b_Md_open 0 = .ok (.aload_n 0, 1) := by decide +kernel
theorem d_Md_open_1 : decode b_Md_open 1 = .ok (.iload_n 1, 1) := by decide +kernel
theorem d_Md_open_2 : decode b_Md_open 2 = .ok (.invokevirtual 123, 3) := by decide +kernel
theorem d_Md_open_5 : decode b_Md_open 5 = .ok (.aload_n 0, 1) := by decide +kernel
theorem d_Md_open_6 : decode b_Md_open 6 = .ok (.iconst 0, 1) := by decide +kernel
theorem d_Md_open_7 : decode b_Md_open 7 = .ok (.invokevirtual 123, 3) := by decide +kernel
theorem d_Md_open_10 : decode b_Md_open 10 = .ok (.aload_n 0, 1) := by decide +kernel
theorem d_Md_open_11 : decode b_Md_open 11 = .ok (.iconst 0, 1) := by decide +kernel
theorem d_Md_open_12 : decode b_Md_open 12 = .ok (.invokevirtual 123, 3) := by decide +kernel
theorem d_Md_open_15 : decode b_Md_open 15 = .ok (.aload_n 0, 1) := by decide +kernel
theorem d_Md_open_16 : decode b_Md_open 16 = .ok (.getfield 120, 3) := by decide +kernel
theorem d_Md_open_19 : decode b_Md_open 19 = .ok (.ireturn, 1) := by decide +kernel
theorem d_Md_putShape_0 : decode b_Md_putShape 0 = .ok (.aload_n 0, 1) := by decide +kernel
theorem d_Md_putShape_1 : decode b_Md_putShape 1 = .ok (.iconst 1, 1) := by decide +kernel
theorem d_Md_putShape_2 : decode b_Md_putShape 2 = .ok (.invokevirtual 140, 3) := by decide +kernel
theorem d_Md_putShape_5 : decode b_Md_putShape 5 = .ok (.istore_n 2, 1) := by decide +kernel
theorem d_Md_putShape_6 : decode b_Md_putShape 6 = .ok (.aload_n 0, 1) := by decide +kernel
theorem d_Md_putShape_7 : decode b_Md_putShape 7 = .ok (.aload_n 0, 1) := by decide +kernel
theorem d_Md_putShape_8 : decode b_Md_putShape 8 = .ok (.getfield 20, 3) := by decide +kernel
theorem d_Md_putShape_11 : decode b_Md_putShape 11 = .ok (.iload_n 1, 1) := by decide +kernel
theorem d_Md_putShape_12 : decode b_Md_putShape 12 = .ok (.iaload, 1) := by decide +kernel
theorem d_Md_putShape_13 : decode b_Md_putShape 13 = .ok (.iconst 1, 1) := by decide +kernel
theorem d_Md_putShape_14 : decode b_Md_putShape 14 = .ok (.iadd, 1) := by decide +kernel
theorem d_Md_putShape_15 : decode b_Md_putShape 15 = .ok (.invokevirtual 123, 3) := by decide +kernel
theorem d_Md_putShape_18 : decode b_Md_putShape 18 = .ok (.aload_n 0, 1) := by decide +kernel
theorem d_Md_putShape_19 : decode b_Md_putShape 19 = .ok (.bipush 16, 2) := by decide +kernel
theorem d_Md_putShape_21 : decode b_Md_putShape 21 = .ok (.aload_n 0, 1) := by decide +kernel
theorem d_Md_putShape_22 : decode b_Md_putShape 22 = .ok (.getfield 13, 3) := by decide +kernel
theorem d_Md_putShape_25 : decode b_Md_putShape 25 = .ok (.iload_n 1, 1) := by decide +kernel
theorem d_Md_putShape_26 : decode b_Md_putShape 26 = .ok (.iaload, 1) := by decide +kernel
theorem d_Md_putShape_27 : decode b_Md_putShape 27 = .ok (.iconst 1, 1) := by decide +kernel
theorem d_Md_putShape_28 : decode b_Md_putShape 28 = .ok (.isub, 1) := by decide +kernel
theorem d_Md_putShape_29 : decode b_Md_putShape 29 = .ok (.imul, 1) := by decide +kernel
theorem d_Md_putShape_30 : decode b_Md_putShape 30 = .ok (.aload_n 0, 1) := by decide +kernel
theorem d_Md_putShape_31 : decode b_Md_putShape 31 = .ok (.getfield 17, 3) := by decide +kernel
theorem d_Md_putShape_34 : decode b_Md_putShape 34 = .ok (.iload_n 1, 1) := by decide +kernel
theorem d_Md_putShape_35 : decode b_Md_putShape 35 = .ok (.iaload, 1) := by decide +kernel
theorem d_Md_putShape_36 : decode b_Md_putShape 36 = .ok (.iadd, 1) := by decide +kernel
theorem d_Md_putShape_37 : decode b_Md_putShape 37 = .ok (.iconst 1, 1) := by decide +kernel
theorem d_Md_putShape_38 : decode b_Md_putShape 38 = .ok (.isub, 1) := by decide +kernel
theorem d_Md_putShape_39 : decode b_Md_putShape 39 = .ok (.invokevirtual 123, 3) := by decide +kernel
theorem d_Md_putShape_42 : decode b_Md_putShape 42 = .ok (.aload_n 0, 1) := by decide +kernel
theorem d_Md_putShape_43 : decode b_Md_putShape 43 = .ok (.iconst 0, 1) := by decide +kernel
theorem d_Md_putShape_44 : decode b_Md_putShape 44 = .ok (.invokevirtual 107, 3) := by decide +kernel
theorem d_Md_putShape_47 : decode b_Md_putShape 47 = .ok (.aload_n 0, 1) := by decide +kernel
theorem d_Md_putShape_48 : decode b_Md_putShape 48 = .ok (.getfield 20, 3) := by decide +kernel
theorem d_Md_putShape_51 : decode b_Md_putShape 51 = .ok (.iload_n 1, 1) := by decide +kernel
theorem d_Md_putShape_52 : decode b_Md_putShape 52 = .ok (.iaload, 1) := by decide +kernel
theorem d_Md_putShape_53 : decode b_Md_putShape 53 = .ok (.ifCond .ge 7, 3) := by decide +kernel
theorem d_Md_putShape_56 : decode b_Md_putShape 56 = .ok (.lconst 0, 1) := by decide +kernel
theorem d_Md_putShape_57 : decode b_Md_putShape 57 = .ok (.goto 14, 3) := by decide +kernel
theorem d_Md_putShape_60 : decode b_Md_putShape 60 = .ok (.aload_n 0, 1) := by decide +kernel
theorem d_Md_putShape_61 : decode b_Md_putShape 61 = .ok (.getfield 7, 3) := by decide +kernel
theorem d_Md_putShape_64 : decode b_Md_putShape 64 = .ok (.aload_n 0, 1) := by decide +kernel
theorem d_Md_putShape_65 : decode b_Md_putShape 65 = .ok (.getfield 20, 3) := by decide +kernel
theorem d_Md_putShape_68 : decode b_Md_putShape 68 = .ok (.iload_n 1, 1) := by decide +kernel
theorem d_Md_putShape_69 : decode b_Md_putShape 69 = .ok (.iaload, 1) := by decide +kernel
theorem d_Md_putShape_70 : decode b_Md_putShape 70 = .ok (.laload, 1) := by decide +kernel
theorem d_Md_putShape_71 : decode b_Md_putShape 71 = .ok (.lstore_n 3, 1) := by decide +kernel
theorem d_Md_putShape_72 : decode b_Md_putShape 72 = .ok (.aload_n 0, 1) := by decide +kernel
theorem d_Md_putShape_73 : decode b_Md_putShape 73 = .ok (.aload_n 0, 1) := by decide +kernel
theorem d_Md_putShape_74 : decode b_Md_putShape 74 = .ok (.getfield 7, 3) := by decide +kernel
theorem d_Md_putShape_77 : decode b_Md_putShape 77 = .ok (.iload_n 1, 1) := by decide +kernel
theorem d_Md_putShape_78 : decode b_Md_putShape 78 = .ok (.laload, 1) := by decide +kernel
theorem d_Md_putShape_79 : decode b_Md_putShape 79 = .ok (.aload_n 0, 1) := by decide +kernel
theorem d_Md_putShape_80 : decode b_Md_putShape 80 = .ok (.getfield 13, 3) := by decide +kernel
theorem d_Md_putShape_83 : decode b_Md_putShape 83 = .ok (.iload_n 1, 1) := by decide +kernel
theorem d_Md_putShape_84 : decode b_Md_putShape 84 = .ok (.iaload, 1) := by decide +kernel
theorem d_Md_putShape_85 : decode b_Md_putShape 85 = .ok (.aload_n 0, 1) := by decide +kernel
theorem d_Md_putShape_86 : decode b_Md_putShape 86 = .ok (.getfield 17, 3) := by decide +kernel
theorem d_Md_putShape_89 : decode b_Md_putShape 89 = .ok (.iload_n 1, 1) := by decide +kernel
theorem d_Md_putShape_90 : decode b_Md_putShape 90 = .ok (.iaload, 1) := by decide +kernel
theorem d_Md_putShape_91 : decode b_Md_putShape 91 = .ok (.aload_n 0, 1) := by decide +kernel
theorem d_Md_putShape_92 : decode b_Md_putShape 92 = .ok (.getfield 20, 3) := by decide +kernel
theorem d_Md_putShape_95 : decode b_Md_putShape 95 = .ok (.iload_n 1, 1) := by decide +kernel
theorem d_Md_putShape_96 : decode b_Md_putShape 96 = .ok (.iaload, 1) := by decide +kernel
theorem d_Md_putShape_97 : decode b_Md_putShape 97 = .ok (.ifCond .lt 7, 3) := by decide +kernel
theorem d_Md_putShape_100 : decode b_Md_putShape 100 = .ok (.iconst 1, 1) := by decide +kernel
theorem d_Md_putShape_101 : decode b_Md_putShape 101 = .ok (.goto 4, 3) := by decide +kernel
theorem d_Md_putShape_104 : decode b_Md_putShape 104 = .ok (.iconst 0, 1) := by decide +kernel
theorem d_Md_putShape_105 : decode b_Md_putShape 105 = .ok (.lload_n 3, 1) := by decide +kernel
theorem d_Md_putShape_106 : decode b_Md_putShape 106 = .ok (.invokevirtual 143, 3) := by decide +kernel
theorem d_Md_putShape_109 : decode b_Md_putShape 109 = .ok (.pop2, 1) := by decide +kernel
theorem d_Md_putShape_110 : decode b_Md_putShape 110 = .ok (.aload_n 0, 1) := by decide +kernel
theorem d_Md_putShape_111 : decode b_Md_putShape 111 = .ok (.invokevirtual 147, 3) := by decide +kernel
theorem d_Md_putShape_114 : decode b_Md_putShape 114 = .ok (.aload_n 0, 1) := by decide +kernel
theorem d_Md_putShape_115 : decode b_Md_putShape 115 = .ok (.iload_n 2, 1) := by decide +kernel
theorem d_Md_putShape_116 : decode b_Md_putShape 116 = .ok (.invokevirtual 150, 3) := by decide +kernel
theorem d_Md_putShape_119 : decode b_Md_putShape 119 = .ok (.return_, 1) := by decide +kernel
theorem d_Md_putLayer_0 : decode b_Md_putLayer 0 = .ok (.iload_n 1, 1) := by decide +kernel
theorem d_Md_putLayer_1 : decode b_Md_putLayer 1 = .ok (.invokestatic 90, 3) := by decide +kernel
theorem d_Md_putLayer_4 : decode b_Md_putLayer 4 = .ok (.istore_n 3, 1) := by decide +kernel
theorem d_Md_putLayer_5 : decode b_Md_putLayer 5 = .ok (.iconst 0, 1) := by decide +kernel
theorem d_Md_putLayer_6 : decode b_Md_putLayer 6 = .ok (.istore 4, 2) := by decide +kernel
theorem d_Md_putLayer_8 : decode b_Md_putLayer 8 = .ok (.iload 4, 2) := by decide +kernel
theorem d_Md_putLayer_10 : decode b_Md_putLayer 10 = .ok (.bipush 64, 2) := by decide +kernel
theorem d_Md_putLayer_12 : decode b_Md_putLayer 12 = .ok (.if_icmp .ge 28, 3) := by decide +kernel
theorem d_Md_putLayer_15 : decode b_Md_putLayer 15 = .ok (.aload_n 0, 1) := by decide +kernel
theorem d_Md_putLayer_16 : decode b_Md_putLayer 16 = .ok (.getfield 59, 3) := by decide +kernel
theorem d_Md_putLayer_19 : decode b_Md_putLayer 19 = .ok (.iload 4, 2) := by decide +kernel
theorem d_Md_putLayer_21 : decode b_Md_putLayer 21 = .ok (.aload_n 0, 1) := by decide +kernel
theorem d_Md_putLayer_22 : decode b_Md_putLayer 22 = .ok (.getfield 29, 3) := by decide +kernel
theorem d_Md_putLayer_25 : decode b_Md_putLayer 25 = .ok (.bipush 64, 2) := by decide +kernel
theorem d_Md_putLayer_27 : decode b_Md_putLayer 27 = .ok (.iload_n 1, 1) := by decide +kernel
theorem d_Md_putLayer_28 : decode b_Md_putLayer 28 = .ok (.imul, 1) := by decide +kernel
theorem d_Md_putLayer_29 : decode b_Md_putLayer 29 = .ok (.iload 4, 2) := by decide +kernel
theorem d_Md_putLayer_31 : decode b_Md_putLayer 31 = .ok (.iadd, 1) := by decide +kernel
theorem d_Md_putLayer_32 : decode b_Md_putLayer 32 = .ok (.iaload, 1) := by decide +kernel
theorem d_Md_putLayer_33 : decode b_Md_putLayer 33 = .ok (.iastore, 1) := by decide +kernel
theorem d_Md_putLayer_34 : decode b_Md_putLayer 34 = .ok (.iinc 4 1, 3) := by decide +kernel
theorem d_Md_putLayer_37 : decode b_Md_putLayer 37 = .ok (.goto (-29), 3) := by decide +kernel
theorem d_Md_putLayer_40 : decode b_Md_putLayer 40 = .ok (.iload_n 3, 1) := by decide +kernel
theorem d_Md_putLayer_41 : decode b_Md_putLayer 41 = .ok (.istore 4, 2) := by decide +kernel
theorem d_Md_putLayer_43 : decode b_Md_putLayer 43 = .ok (.iload 4, 2) := by decide +kernel
theorem d_Md_putLayer_45 : decode b_Md_putLayer 45 = .ok (.iconst 2, 1) := by decide +kernel
theorem d_Md_putLayer_46 : decode b_Md_putLayer 46 = .ok (.if_icmp .lt 28, 3) := by decide +kernel
theorem d_Md_putLayer_49 : decode b_Md_putLayer 49 = .ok (.aload_n 0, 1) := by decide +kernel
theorem d_Md_putLayer_50 : decode b_Md_putLayer 50 = .ok (.iload 4, 2) := by decide +kernel
theorem d_Md_putLayer_52 : decode b_Md_putLayer 52 = .ok (.iconst 1, 1) := by decide +kernel
theorem d_Md_putLayer_53 : decode b_Md_putLayer 53 = .ok (.iconst 1, 1) := by decide +kernel
theorem d_Md_putLayer_54 : decode b_Md_putLayer 54 = .ok (.invokevirtual 153, 3) := by decide +kernel
theorem d_Md_putLayer_57 : decode b_Md_putLayer 57 = .ok (.aload_n 0, 1) := by decide +kernel
theorem d_Md_putLayer_58 : decode b_Md_putLayer 58 = .ok (.iload 4, 2) := by decide +kernel
theorem d_Md_putLayer_60 : decode b_Md_putLayer 60 = .ok (.iconst 0, 1) := by decide +kernel
theorem d_Md_putLayer_61 : decode b_Md_putLayer 61 = .ok (.iconst 1, 1) := by decide +kernel
theorem d_Md_putLayer_62 : decode b_Md_putLayer 62 = .ok (.invokevirtual 153, 3) := by decide +kernel
theorem d_Md_putLayer_65 : decode b_Md_putLayer 65 = .ok (.iload 4, 2) := by decide +kernel
theorem d_Md_putLayer_67 : decode b_Md_putLayer 67 = .ok (.iconst 2, 1) := by decide +kernel
theorem d_Md_putLayer_68 : decode b_Md_putLayer 68 = .ok (.idiv, 1) := by decide +kernel
theorem d_Md_putLayer_69 : decode b_Md_putLayer 69 = .ok (.istore 4, 2) := by decide +kernel
theorem d_Md_putLayer_71 : decode b_Md_putLayer 71 = .ok (.goto (-28), 3) := by decide +kernel
theorem d_Md_putLayer_74 : decode b_Md_putLayer 74 = .ok (.aload_n 0, 1) := by decide +kernel
theorem d_Md_putLayer_75 : decode b_Md_putLayer 75 = .ok (.iconst 3, 1) := by decide +kernel
theorem d_Md_putLayer_76 : decode b_Md_putLayer 76 = .ok (.iload_n 1, 1) := by decide +kernel
theorem d_Md_putLayer_77 : decode b_Md_putLayer 77 = .ok (.iadd, 1) := by decide +kernel
theorem d_Md_putLayer_78 : decode b_Md_putLayer 78 = .ok (.invokevirtual 140, 3) := by decide +kernel
theorem d_Md_putLayer_81 : decode b_Md_putLayer 81 = .ok (.istore 4, 2) := by decide +kernel
theorem d_Md_putLayer_83 : decode b_Md_putLayer 83 = .ok (.aload_n 0, 1) := by decide +kernel
theorem d_Md_putLayer_84 : decode b_Md_putLayer 84 = .ok (.iload_n 2, 1) := by decide +kernel
theorem d_Md_putLayer_85 : decode b_Md_putLayer 85 = .ok (.invokevirtual 123, 3) := by decide +kernel
theorem d_Md_putLayer_88 : decode b_Md_putLayer 88 = .ok (.aload_n 0, 1) := by decide +kernel
theorem d_Md_putLayer_89 : decode b_Md_putLayer 89 = .ok (.iconst 0, 1) := by decide +kernel
theorem d_Md_putLayer_90 : decode b_Md_putLayer 90 = .ok (.invokevirtual 107, 3) := by decide +kernel
theorem d_Md_putLayer_93 : decode b_Md_putLayer 93 = .ok (.aload_n 0, 1) := by decide +kernel
theorem d_Md_putLayer_94 : decode b_Md_putLayer 94 = .ok (.iload_n 3, 1) := by decide +kernel
theorem d_Md_putLayer_95 : decode b_Md_putLayer 95 = .ok (.iload_n 2, 1) := by decide +kernel
theorem d_Md_putLayer_96 : decode b_Md_putLayer 96 = .ok (.invokevirtual 157, 3) := by decide +kernel
theorem d_Md_putLayer_99 : decode b_Md_putLayer 99 = .ok (.aload_n 0, 1) := by decide +kernel
theorem d_Md_putLayer_100 : decode b_Md_putLayer 100 = .ok (.invokevirtual 147, 3) := by decide +kernel
theorem d_Md_putLayer_103 : decode b_Md_putLayer 103 = .ok (.aload_n 0, 1) := by decide +kernel
theorem d_Md_putLayer_104 : decode b_Md_putLayer 104 = .ok (.iload 4, 2) := by decide +kernel
theorem d_Md_putLayer_106 : decode b_Md_putLayer 106 = .ok (.invokevirtual 150, 3) := by decide +kernel
theorem d_Md_putLayer_109 : decode b_Md_putLayer 109 = .ok (.return_, 1) := by decide +kernel
theorem d_Md_encode_0 : decode b_Md_encode 0 = .ok (.iload_n 1, 1) := by decide +kernel
theorem d_Md_encode_1 : decode b_Md_encode 1 = .ok (.bipush 10, 2) := by decide +kernel
theorem d_Md_encode_3 : decode b_Md_encode 3 = .ok (.invokestatic 75, 3) := by decide +kernel
theorem d_Md_encode_6 : decode b_Md_encode 6 = .ok (.ifCond .eq 5, 3) := by decide +kernel
theorem d_Md_encode_9 : decode b_Md_encode 9 = .ok (.iconst (-1), 1) := by decide +kernel
theorem d_Md_encode_10 : decode b_Md_encode 10 = .ok (.ireturn, 1) := by decide +kernel
theorem d_Md_encode_11 : decode b_Md_encode 11 = .ok (.aload_n 0, 1) := by decide +kernel
theorem d_Md_encode_12 : decode b_Md_encode 12 = .ok (.iconst 0, 1) := by decide +kernel
theorem d_Md_encode_13 : decode b_Md_encode 13 = .ok (.putfield 120, 3) := by decide +kernel
theorem d_Md_encode_16 : decode b_Md_encode 16 = .ok (.aload_n 0, 1) := by decide +kernel
theorem d_Md_encode_17 : decode b_Md_encode 17 = .ok (.bipush 80, 2) := by decide +kernel
theorem d_Md_encode_19 : decode b_Md_encode 19 = .ok (.invokevirtual 123, 3) := by decide +kernel
theorem d_Md_encode_22 : decode b_Md_encode 22 = .ok (.aload_n 0, 1) := by decide +kernel
theorem d_Md_encode_23 : decode b_Md_encode 23 = .ok (.bipush 71, 2) := by decide +kernel
theorem d_Md_encode_25 : decode b_Md_encode 25 = .ok (.invokevirtual 123, 3) := by decide +kernel
theorem d_Md_encode_28 : decode b_Md_encode 28 = .ok (.iconst 0, 1) := by decide +kernel
theorem d_Md_encode_29 : decode b_Md_encode 29 = .ok (.istore_n 2, 1) := by decide +kernel
theorem d_Md_encode_30 : decode b_Md_encode 30 = .ok (.iload_n 2, 1) := by decide +kernel
theorem d_Md_encode_31 : decode b_Md_encode 31 = .ok (.aload_n 0, 1) := by decide +kernel
theorem d_Md_encode_32 : decode b_Md_encode 32 = .ok (.getfield 79, 3) := by decide +kernel
theorem d_Md_encode_35 : decode b_Md_encode 35 = .ok (.if_icmp .ge 14, 3) := by decide +kernel
theorem d_Md_encode_38 : decode b_Md_encode 38 = .ok (.aload_n 0, 1) := by decide +kernel
theorem d_Md_encode_39 : decode b_Md_encode 39 = .ok (.iload_n 2, 1) := by decide +kernel
theorem d_Md_encode_40 : decode b_Md_encode 40 = .ok (.invokevirtual 160, 3) := by decide +kernel
theorem d_Md_encode_43 : decode b_Md_encode 43 = .ok (.iinc 2 1, 3) := by decide +kernel
theorem d_Md_encode_46 : decode b_Md_encode 46 = .ok (.goto (-16), 3) := by decide +kernel
theorem d_Md_encode_49 : decode b_Md_encode 49 = .ok (.aload_n 0, 1) := by decide +kernel
theorem d_Md_encode_50 : decode b_Md_encode 50 = .ok (.iconst 2, 1) := by decide +kernel
theorem d_Md_encode_51 : decode b_Md_encode 51 = .ok (.invokevirtual 140, 3) := by decide +kernel
theorem d_Md_encode_54 : decode b_Md_encode 54 = .ok (.istore_n 2, 1) := by decide +kernel
theorem d_Md_encode_55 : decode b_Md_encode 55 = .ok (.iconst 0, 1) := by decide +kernel
theorem d_Md_encode_56 : decode b_Md_encode 56 = .ok (.istore_n 3, 1) := by decide +kernel
theorem d_Md_encode_57 : decode b_Md_encode 57 = .ok (.iload_n 3, 1) := by decide +kernel
theorem d_Md_encode_58 : decode b_Md_encode 58 = .ok (.aload_n 0, 1) := by decide +kernel
theorem d_Md_encode_59 : decode b_Md_encode 59 = .ok (.getfield 87, 3) := by decide +kernel
theorem d_Md_encode_62 : decode b_Md_encode 62 = .ok (.if_icmp .ge 29, 3) := by decide +kernel
theorem d_Md_encode_65 : decode b_Md_encode 65 = .ok (.aload_n 0, 1) := by decide +kernel
theorem d_Md_encode_66 : decode b_Md_encode 66 = .ok (.aload_n 0, 1) := by decide +kernel
theorem d_Md_encode_67 : decode b_Md_encode 67 = .ok (.getfield 23, 3) := by decide +kernel
theorem d_Md_encode_70 : decode b_Md_encode 70 = .ok (.iload_n 3, 1) := by decide +kernel
theorem d_Md_encode_71 : decode b_Md_encode 71 = .ok (.iaload, 1) := by decide +kernel
theorem d_Md_encode_72 : decode b_Md_encode 72 = .ok (.invokevirtual 123, 3) := by decide +kernel
theorem d_Md_encode_75 : decode b_Md_encode 75 = .ok (.aload_n 0, 1) := by decide +kernel
theorem d_Md_encode_76 : decode b_Md_encode 76 = .ok (.aload_n 0, 1) := by decide +kernel
theorem d_Md_encode_77 : decode b_Md_encode 77 = .ok (.getfield 26, 3) := by decide +kernel
theorem d_Md_encode_80 : decode b_Md_encode 80 = .ok (.iload_n 3, 1) := by decide +kernel
theorem d_Md_encode_81 : decode b_Md_encode 81 = .ok (.iaload, 1) := by decide +kernel
theorem d_Md_encode_82 : decode b_Md_encode 82 = .ok (.invokevirtual 123, 3) := by decide +kernel
theorem d_Md_encode_85 : decode b_Md_encode 85 = .ok (.iinc 3 1, 3) := by decide +kernel
theorem d_Md_encode_88 : decode b_Md_encode 88 = .ok (.goto (-31), 3) := by decide +kernel
theorem d_Md_encode_91 : decode b_Md_encode 91 = .ok (.aload_n 0, 1) := by decide +kernel
theorem d_Md_encode_92 : decode b_Md_encode 92 = .ok (.iload_n 2, 1) := by decide +kernel
theorem d_Md_encode_93 : decode b_Md_encode 93 = .ok (.invokevirtual 150, 3) := by decide +kernel
theorem d_Md_encode_96 : decode b_Md_encode 96 = .ok (.aload_n 0, 1) := by decide +kernel
theorem d_Md_encode_97 : decode b_Md_encode 97 = .ok (.iconst 0, 1) := by decide +kernel
theorem d_Md_encode_98 : decode b_Md_encode 98 = .ok (.iload_n 1, 1) := by decide +kernel
theorem d_Md_encode_99 : decode b_Md_encode 99 = .ok (.invokevirtual 162, 3) := by decide +kernel
theorem d_Md_encode_102 : decode b_Md_encode 102 = .ok (.aload_n 0, 1) := by decide +kernel
theorem d_Md_encode_103 : decode b_Md_encode 103 = .ok (.iconst 1, 1) := by decide +kernel
theorem d_Md_encode_104 : decode b_Md_encode 104 = .ok (.iload_n 1, 1) := by decide +kernel
theorem d_Md_encode_105 : decode b_Md_encode 105 = .ok (.invokevirtual 162, 3) := by decide +kernel
theorem d_Md_encode_108 : decode b_Md_encode 108 = .ok (.aload_n 0, 1) := by decide +kernel
theorem d_Md_encode_109 : decode b_Md_encode 109 = .ok (.getfield 120, 3) := by decide +kernel
theorem d_Md_encode_112 : decode b_Md_encode 112 = .ok (.ireturn, 1) := by decide +kernel
theorem d_Md_length_0 : decode b_Md_length 0 = .ok (.aload_n 0, 1) := by decide +kernel
theorem d_Md_length_1 : decode b_Md_length 1 = .ok (.getfield 120, 3) := by decide +kernel
theorem d_Md_length_4 : decode b_Md_length 4 = .ok (.ireturn, 1) := by decide +kernel
theorem d_Md_octet_0 : decode b_Md_octet 0 = .ok (.iload_n 1, 1) := by decide +kernel
theorem d_Md_octet_1 : decode b_Md_octet 1 = .ok (.aload_n 0, 1) := by decide +kernel
theorem d_Md_octet_2 : decode b_Md_octet 2 = .ok (.getfield 120, 3) := by decide +kernel
theorem d_Md_octet_5 : decode b_Md_octet 5 = .ok (.iconst 1, 1) := by decide +kernel
theorem d_Md_octet_6 : decode b_Md_octet 6 = .ok (.isub, 1) := by decide +kernel
theorem d_Md_octet_7 : decode b_Md_octet 7 = .ok (.invokestatic 75, 3) := by decide +kernel
theorem d_Md_octet_10 : decode b_Md_octet 10 = .ok (.ifCond .eq 7, 3) := by decide +kernel
theorem d_Md_octet_13 : decode b_Md_octet 13 = .ok (.iconst (-1), 1) := by decide +kernel
theorem d_Md_octet_14 : decode b_Md_octet 14 = .ok (.goto 9, 3) := by decide +kernel
theorem d_Md_octet_17 : decode b_Md_octet 17 = .ok (.aload_n 0, 1) := by decide +kernel
theorem d_Md_octet_18 : decode b_Md_octet 18 = .ok (.getfield 32, 3) := by decide +kernel
theorem d_Md_octet_21 : decode b_Md_octet 21 = .ok (.iload_n 1, 1) := by decide +kernel
theorem d_Md_octet_22 : decode b_Md_octet 22 = .ok (.iaload, 1) := by decide +kernel
theorem d_Md_octet_23 : decode b_Md_octet 23 = .ok (.ireturn, 1) := by decide +kernel
theorem d_Md_alter_0 : decode b_Md_alter 0 = .ok (.iload_n 1, 1) := by decide +kernel
theorem d_Md_alter_1 : decode b_Md_alter 1 = .ok (.aload_n 0, 1) := by decide +kernel
theorem d_Md_alter_2 : decode b_Md_alter 2 = .ok (.getfield 120, 3) := by decide +kernel
theorem d_Md_alter_5 : decode b_Md_alter 5 = .ok (.invokestatic 75, 3) := by decide +kernel
theorem d_Md_alter_8 : decode b_Md_alter 8 = .ok (.ifCond .ne 20, 3) := by decide +kernel
theorem d_Md_alter_11 : decode b_Md_alter 11 = .ok (.iload_n 1, 1) := by decide +kernel
theorem d_Md_alter_12 : decode b_Md_alter 12 = .ok (.sipush 1200, 3) := by decide +kernel
theorem d_Md_alter_15 : decode b_Md_alter 15 = .ok (.if_icmp .eq 13, 3) := by decide +kernel
theorem d_Md_alter_18 : decode b_Md_alter 18 = .ok (.iload_n 2, 1) := by decide +kernel
theorem d_Md_alter_19 : decode b_Md_alter 19 = .ok (.sipush 255, 3) := by decide +kernel
theorem d_Md_alter_22 : decode b_Md_alter 22 = .ok (.invokestatic 75, 3) := by decide +kernel
theorem d_Md_alter_25 : decode b_Md_alter 25 = .ok (.ifCond .eq 5, 3) := by decide +kernel
theorem d_Md_alter_28 : decode b_Md_alter 28 = .ok (.iconst 0, 1) := by decide +kernel
theorem d_Md_alter_29 : decode b_Md_alter 29 = .ok (.ireturn, 1) := by decide +kernel
theorem d_Md_alter_30 : decode b_Md_alter 30 = .ok (.aload_n 0, 1) := by decide +kernel
theorem d_Md_alter_31 : decode b_Md_alter 31 = .ok (.getfield 32, 3) := by decide +kernel
theorem d_Md_alter_34 : decode b_Md_alter 34 = .ok (.iload_n 1, 1) := by decide +kernel
theorem d_Md_alter_35 : decode b_Md_alter 35 = .ok (.iload_n 2, 1) := by decide +kernel
theorem d_Md_alter_36 : decode b_Md_alter 36 = .ok (.iastore, 1) := by decide +kernel
theorem d_Md_alter_37 : decode b_Md_alter 37 = .ok (.aload_n 0, 1) := by decide +kernel
theorem d_Md_alter_38 : decode b_Md_alter 38 = .ok (.iload_n 1, 1) := by decide +kernel
theorem d_Md_alter_39 : decode b_Md_alter 39 = .ok (.aload_n 0, 1) := by decide +kernel
theorem d_Md_alter_40 : decode b_Md_alter 40 = .ok (.getfield 120, 3) := by decide +kernel
theorem d_Md_alter_43 : decode b_Md_alter 43 = .ok (.if_icmp .ne 12, 3) := by decide +kernel
theorem d_Md_alter_46 : decode b_Md_alter 46 = .ok (.aload_n 0, 1) := by decide +kernel
theorem d_Md_alter_47 : decode b_Md_alter 47 = .ok (.getfield 120, 3) := by decide +kernel
theorem d_Md_alter_50 : decode b_Md_alter 50 = .ok (.iconst 1, 1) := by decide +kernel
theorem d_Md_alter_51 : decode b_Md_alter 51 = .ok (.iadd, 1) := by decide +kernel
theorem d_Md_alter_52 : decode b_Md_alter 52 = .ok (.goto 7, 3) := by decide +kernel
theorem d_Md_alter_55 : decode b_Md_alter 55 = .ok (.aload_n 0, 1) := by decide +kernel
theorem d_Md_alter_56 : decode b_Md_alter 56 = .ok (.getfield 120, 3) := by decide +kernel
theorem d_Md_alter_59 : decode b_Md_alter 59 = .ok (.putfield 120, 3) := by decide +kernel
theorem d_Md_alter_62 : decode b_Md_alter 62 = .ok (.iconst 1, 1) := by decide +kernel
theorem d_Md_alter_63 : decode b_Md_alter 63 = .ok (.ireturn, 1) := by decide +kernel
end
section
theorem d_Md_cut_0 : decode b_Md_cut 0 = .ok (.iload_n 1, 1) := by decide +kernel
theorem d_Md_cut_1 : decode b_Md_cut 1 = .ok (.aload_n 0, 1) := by decide +kernel
theorem d_Md_cut_2 : decode b_Md_cut 2 = .ok (.getfield 120, 3) := by decide +kernel
theorem d_Md_cut_5 : decode b_Md_cut 5 = .ok (.invokestatic 75, 3) := by decide +kernel
theorem d_Md_cut_8 : decode b_Md_cut 8 = .ok (.ifCond .eq 5, 3) := by decide +kernel
theorem d_Md_cut_11 : decode b_Md_cut 11 = .ok (.iconst 0, 1) := by decide +kernel
theorem d_Md_cut_12 : decode b_Md_cut 12 = .ok (.ireturn, 1) := by decide +kernel
theorem d_Md_cut_13 : decode b_Md_cut 13 = .ok (.aload_n 0, 1) := by decide +kernel
theorem d_Md_cut_14 : decode b_Md_cut 14 = .ok (.iload_n 1, 1) := by decide +kernel
theorem d_Md_cut_15 : decode b_Md_cut 15 = .ok (.putfield 120, 3) := by decide +kernel
theorem d_Md_cut_18 : decode b_Md_cut 18 = .ok (.iconst 1, 1) := by decide +kernel
theorem d_Md_cut_19 : decode b_Md_cut 19 = .ok (.ireturn, 1) := by decide +kernel
theorem d_Md_chunkLength_0 : decode b_Md_chunkLength 0 = .ok (.sipush 256, 3) := by decide +kernel
theorem d_Md_chunkLength_3 : decode b_Md_chunkLength 3 = .ok (.aload_n 0, 1) := by decide +kernel
theorem d_Md_chunkLength_4 : decode b_Md_chunkLength 4 = .ok (.getfield 32, 3) := by decide +kernel
theorem d_Md_chunkLength_7 : decode b_Md_chunkLength 7 = .ok (.iload_n 1, 1) := by decide +kernel
theorem d_Md_chunkLength_8 : decode b_Md_chunkLength 8 = .ok (.iconst 1, 1) := by decide +kernel
theorem d_Md_chunkLength_9 : decode b_Md_chunkLength 9 = .ok (.iadd, 1) := by decide +kernel
theorem d_Md_chunkLength_10 : decode b_Md_chunkLength 10 = .ok (.iaload, 1) := by decide +kernel
theorem d_Md_chunkLength_11 : decode b_Md_chunkLength 11 = .ok (.imul, 1) := by decide +kernel
theorem d_Md_chunkLength_12 : decode b_Md_chunkLength 12 = .ok (.aload_n 0, 1) := by decide +kernel
theorem d_Md_chunkLength_13 : decode b_Md_chunkLength 13 = .ok (.getfield 32, 3) := by decide +kernel
theorem d_Md_chunkLength_16 : decode b_Md_chunkLength 16 = .ok (.iload_n 1, 1) := by decide +kernel
theorem d_Md_chunkLength_17 : decode b_Md_chunkLength 17 = .ok (.iconst 2, 1) := by decide +kernel
theorem d_Md_chunkLength_18 : decode b_Md_chunkLength 18 = .ok (.iadd, 1) := by decide +kernel
theorem d_Md_chunkLength_19 : decode b_Md_chunkLength 19 = .ok (.iaload, 1) := by decide +kernel
theorem d_Md_chunkLength_20 : decode b_Md_chunkLength 20 = .ok (.iadd, 1) := by decide +kernel
theorem d_Md_chunkLength_21 : decode b_Md_chunkLength 21 = .ok (.ireturn, 1) := by decide +kernel
theorem d_Md_before_0 : decode b_Md_before 0 = .ok (.iconst 0, 1) := by decide +kernel
theorem d_Md_before_1 : decode b_Md_before 1 = .ok (.istore_n 3, 1) := by decide +kernel
theorem d_Md_before_2 : decode b_Md_before 2 = .ok (.iconst 2, 1) := by decide +kernel
theorem d_Md_before_3 : decode b_Md_before 3 = .ok (.istore 4, 2) := by decide +kernel
theorem d_Md_before_5 : decode b_Md_before 5 = .ok (.iload 4, 2) := by decide +kernel
theorem d_Md_before_7 : decode b_Md_before 7 = .ok (.iload_n 1, 1) := by decide +kernel
theorem d_Md_before_8 : decode b_Md_before 8 = .ok (.if_icmp .ge 42, 3) := by decide +kernel
theorem d_Md_before_11 : decode b_Md_before 11 = .ok (.iload_n 3, 1) := by decide +kernel
theorem d_Md_before_12 : decode b_Md_before 12 = .ok (.iload_n 2, 1) := by decide +kernel
theorem d_Md_before_13 : decode b_Md_before 13 = .ok (.ifCond .eq 14, 3) := by decide +kernel
theorem d_Md_before_16 : decode b_Md_before 16 = .ok (.aload_n 0, 1) := by decide +kernel
theorem d_Md_before_17 : decode b_Md_before 17 = .ok (.getfield 32, 3) := by decide +kernel
theorem d_Md_before_20 : decode b_Md_before 20 = .ok (.iload 4, 2) := by decide +kernel
theorem d_Md_before_22 : decode b_Md_before 22 = .ok (.iaload, 1) := by decide +kernel
theorem d_Md_before_23 : decode b_Md_before 23 = .ok (.iload_n 2, 1) := by decide +kernel
theorem d_Md_before_24 : decode b_Md_before 24 = .ok (.if_icmp .ne 7, 3) := by decide +kernel
theorem d_Md_before_27 : decode b_Md_before 27 = .ok (.iconst 1, 1) := by decide +kernel
theorem d_Md_before_28 : decode b_Md_before 28 = .ok (.goto 4, 3) := by decide +kernel
theorem d_Md_before_31 : decode b_Md_before 31 = .ok (.iconst 0, 1) := by decide +kernel
theorem d_Md_before_32 : decode b_Md_before 32 = .ok (.iadd, 1) := by decide +kernel
theorem d_Md_before_33 : decode b_Md_before 33 = .ok (.istore_n 3, 1) := by decide +kernel
theorem d_Md_before_34 : decode b_Md_before 34 = .ok (.iload 4, 2) := by decide +kernel
theorem d_Md_before_36 : decode b_Md_before 36 = .ok (.iconst 3, 1) := by decide +kernel
theorem d_Md_before_37 : decode b_Md_before 37 = .ok (.aload_n 0, 1) := by decide +kernel
theorem d_Md_before_38 : decode b_Md_before 38 = .ok (.iload 4, 2) := by decide +kernel
theorem d_Md_before_40 : decode b_Md_before 40 = .ok (.invokevirtual 165, 3) := by decide +kernel
theorem d_Md_before_43 : decode b_Md_before 43 = .ok (.iadd, 1) := by decide +kernel
theorem d_Md_before_44 : decode b_Md_before 44 = .ok (.iadd, 1) := by decide +kernel
theorem d_Md_before_45 : decode b_Md_before 45 = .ok (.istore 4, 2) := by decide +kernel
theorem d_Md_before_47 : decode b_Md_before 47 = .ok (.goto (-42), 3) := by decide +kernel
theorem d_Md_before_50 : decode b_Md_before 50 = .ok (.iload_n 3, 1) := by decide +kernel
theorem d_Md_before_51 : decode b_Md_before 51 = .ok (.ireturn, 1) := by decide +kernel
theorem d_Md_placingsBefore_0 : decode b_Md_placingsBefore 0 = .ok (.iconst 0, 1) := by decide +kernel
theorem d_Md_placingsBefore_1 : decode b_Md_placingsBefore 1 = .ok (.istore_n 2, 1) := by decide +kernel
theorem d_Md_placingsBefore_2 : decode b_Md_placingsBefore 2 = .ok (.iconst 2, 1) := by decide +kernel
theorem d_Md_placingsBefore_3 : decode b_Md_placingsBefore 3 = .ok (.istore_n 3, 1) := by decide +kernel
theorem d_Md_placingsBefore_4 : decode b_Md_placingsBefore 4 = .ok (.iload_n 3, 1) := by decide +kernel
theorem d_Md_placingsBefore_5 : decode b_Md_placingsBefore 5 = .ok (.iload_n 1, 1) := by decide +kernel
theorem d_Md_placingsBefore_6 : decode b_Md_placingsBefore 6 = .ok (.if_icmp .ge 40, 3) := by decide +kernel
theorem d_Md_placingsBefore_9 : decode b_Md_placingsBefore 9 = .ok (.iload_n 2, 1) := by decide +kernel
theorem d_Md_placingsBefore_10 : decode b_Md_placingsBefore 10 = .ok (.aload_n 0, 1) := by decide +kernel
theorem d_Md_placingsBefore_11 : decode b_Md_placingsBefore 11 = .ok (.getfield 32, 3) := by decide +kernel
theorem d_Md_placingsBefore_14 : decode b_Md_placingsBefore 14 = .ok (.iload_n 3, 1) := by decide +kernel
theorem d_Md_placingsBefore_15 : decode b_Md_placingsBefore 15 = .ok (.iaload, 1) := by decide +kernel
theorem d_Md_placingsBefore_16 : decode b_Md_placingsBefore 16 = .ok (.iconst 2, 1) := by decide +kernel
theorem d_Md_placingsBefore_17 : decode b_Md_placingsBefore 17 = .ok (.if_icmp .ne 13, 3) := by decide +kernel
theorem d_Md_placingsBefore_20 : decode b_Md_placingsBefore 20 = .ok (.aload_n 0, 1) := by decide +kernel
theorem d_Md_placingsBefore_21 : decode b_Md_placingsBefore 21 = .ok (.iload_n 3, 1) := by decide +kernel
theorem d_Md_placingsBefore_22 : decode b_Md_placingsBefore 22 = .ok (.invokevirtual 165, 3) := by decide +kernel
theorem d_Md_placingsBefore_25 : decode b_Md_placingsBefore 25 = .ok (.iconst 2, 1) := by decide +kernel
theorem d_Md_placingsBefore_26 : decode b_Md_placingsBefore 26 = .ok (.idiv, 1) := by decide +kernel
theorem d_Md_placingsBefore_27 : decode b_Md_placingsBefore 27 = .ok (.goto 4, 3) := by decide +kernel
theorem d_Md_placingsBefore_30 : decode b_Md_placingsBefore 30 = .ok (.iconst 0, 1) := by decide +kernel
theorem d_Md_placingsBefore_31 : decode b_Md_placingsBefore 31 = .ok (.iadd, 1) := by decide +kernel
theorem d_Md_placingsBefore_32 : decode b_Md_placingsBefore 32 = .ok (.istore_n 2, 1) := by decide +kernel
theorem d_Md_placingsBefore_33 : decode b_Md_placingsBefore 33 = .ok (.iload_n 3, 1) := by decide +kernel
theorem d_Md_placingsBefore_34 : decode b_Md_placingsBefore 34 = .ok (.iconst 3, 1) := by decide +kernel
theorem d_Md_placingsBefore_35 : decode b_Md_placingsBefore 35 = .ok (.aload_n 0, 1) := by decide +kernel
theorem d_Md_placingsBefore_36 : decode b_Md_placingsBefore 36 = .ok (.iload_n 3, 1) := by decide +kernel
theorem d_Md_placingsBefore_37 : decode b_Md_placingsBefore 37 = .ok (.invokevirtual 165, 3) := by decide +kernel
theorem d_Md_placingsBefore_40 : decode b_Md_placingsBefore 40 = .ok (.iadd, 1) := by decide +kernel
theorem d_Md_placingsBefore_41 : decode b_Md_placingsBefore 41 = .ok (.iadd, 1) := by decide +kernel
theorem d_Md_placingsBefore_42 : decode b_Md_placingsBefore 42 = .ok (.istore_n 3, 1) := by decide +kernel
theorem d_Md_placingsBefore_43 : decode b_Md_placingsBefore 43 = .ok (.goto (-39), 3) := by decide +kernel
theorem d_Md_placingsBefore_46 : decode b_Md_placingsBefore 46 = .ok (.iload_n 2, 1) := by decide +kernel
theorem d_Md_placingsBefore_47 : decode b_Md_placingsBefore 47 = .ok (.ireturn, 1) := by decide +kernel
theorem d_Md_chunkFault_0 : decode b_Md_chunkFault 0 = .ok (.aload_n 0, 1) := by decide +kernel
theorem d_Md_chunkFault_1 : decode b_Md_chunkFault 1 = .ok (.getfield 120, 3) := by decide +kernel
theorem d_Md_chunkFault_4 : decode b_Md_chunkFault 4 = .ok (.iload_n 1, 1) := by decide +kernel
theorem d_Md_chunkFault_5 : decode b_Md_chunkFault 5 = .ok (.isub, 1) := by decide +kernel
theorem d_Md_chunkFault_6 : decode b_Md_chunkFault 6 = .ok (.iconst 3, 1) := by decide +kernel
theorem d_Md_chunkFault_7 : decode b_Md_chunkFault 7 = .ok (.if_icmp .lt 19, 3) := by decide +kernel
theorem d_Md_chunkFault_10 : decode b_Md_chunkFault 10 = .ok (.aload_n 0, 1) := by decide +kernel
theorem d_Md_chunkFault_11 : decode b_Md_chunkFault 11 = .ok (.getfield 120, 3) := by decide +kernel
theorem d_Md_chunkFault_14 : decode b_Md_chunkFault 14 = .ok (.iload_n 1, 1) := by decide +kernel
theorem d_Md_chunkFault_15 : decode b_Md_chunkFault 15 = .ok (.isub, 1) := by decide +kernel
theorem d_Md_chunkFault_16 : decode b_Md_chunkFault 16 = .ok (.iconst 3, 1) := by decide +kernel
theorem d_Md_chunkFault_17 : decode b_Md_chunkFault 17 = .ok (.isub, 1) := by decide +kernel
theorem d_Md_chunkFault_18 : decode b_Md_chunkFault 18 = .ok (.aload_n 0, 1) := by decide +kernel
theorem d_Md_chunkFault_19 : decode b_Md_chunkFault 19 = .ok (.iload_n 1, 1) := by decide +kernel
theorem d_Md_chunkFault_20 : decode b_Md_chunkFault 20 = .ok (.invokevirtual 165, 3) := by decide +kernel
theorem d_Md_chunkFault_23 : decode b_Md_chunkFault 23 = .ok (.if_icmp .ge 5, 3) := by decide +kernel
theorem d_Md_chunkFault_26 : decode b_Md_chunkFault 26 = .ok (.iconst 2, 1) := by decide +kernel
theorem d_Md_chunkFault_27 : decode b_Md_chunkFault 27 = .ok (.ireturn, 1) := by decide +kernel
theorem d_Md_chunkFault_28 : decode b_Md_chunkFault 28 = .ok (.aload_n 0, 1) := by decide +kernel
theorem d_Md_chunkFault_29 : decode b_Md_chunkFault 29 = .ok (.getfield 32, 3) := by decide +kernel
theorem d_Md_chunkFault_32 : decode b_Md_chunkFault 32 = .ok (.iload_n 1, 1) := by decide +kernel
theorem d_Md_chunkFault_33 : decode b_Md_chunkFault 33 = .ok (.iaload, 1) := by decide +kernel
theorem d_Md_chunkFault_34 : decode b_Md_chunkFault 34 = .ok (.istore_n 2, 1) := by decide +kernel
theorem d_Md_chunkFault_35 : decode b_Md_chunkFault 35 = .ok (.aload_n 0, 1) := by decide +kernel
theorem d_Md_chunkFault_36 : decode b_Md_chunkFault 36 = .ok (.iload_n 1, 1) := by decide +kernel
theorem d_Md_chunkFault_37 : decode b_Md_chunkFault 37 = .ok (.invokevirtual 165, 3) := by decide +kernel
theorem d_Md_chunkFault_40 : decode b_Md_chunkFault 40 = .ok (.istore_n 3, 1) := by decide +kernel
theorem d_Md_chunkFault_41 : decode b_Md_chunkFault 41 = .ok (.iload_n 2, 1) := by decide +kernel
theorem d_Md_chunkFault_42 : decode b_Md_chunkFault 42 = .ok (.iconst 1, 1) := by decide +kernel
theorem d_Md_chunkFault_43 : decode b_Md_chunkFault 43 = .ok (.isub, 1) := by decide +kernel
theorem d_Md_chunkFault_44 : decode b_Md_chunkFault 44 = .ok (.iconst 3, 1) := by decide +kernel
theorem d_Md_chunkFault_45 : decode b_Md_chunkFault 45 = .ok (.invokestatic 75, 3) := by decide +kernel
theorem d_Md_chunkFault_48 : decode b_Md_chunkFault 48 = .ok (.ifCond .ne 14, 3) := by decide +kernel
theorem d_Md_chunkFault_51 : decode b_Md_chunkFault 51 = .ok (.aload_n 0, 1) := by decide +kernel
theorem d_Md_chunkFault_52 : decode b_Md_chunkFault 52 = .ok (.iload_n 1, 1) := by decide +kernel
theorem d_Md_chunkFault_53 : decode b_Md_chunkFault 53 = .ok (.iconst 0, 1) := by decide +kernel
theorem d_Md_chunkFault_54 : decode b_Md_chunkFault 54 = .ok (.invokevirtual 168, 3) := by decide +kernel
theorem d_Md_chunkFault_57 : decode b_Md_chunkFault 57 = .ok (.bipush 16, 2) := by decide +kernel
theorem d_Md_chunkFault_59 : decode b_Md_chunkFault 59 = .ok (.if_icmp .lt 5, 3) := by decide +kernel
theorem d_Md_chunkFault_62 : decode b_Md_chunkFault 62 = .ok (.iconst 3, 1) := by decide +kernel
theorem d_Md_chunkFault_63 : decode b_Md_chunkFault 63 = .ok (.ireturn, 1) := by decide +kernel
theorem d_Md_chunkFault_64 : decode b_Md_chunkFault 64 = .ok (.aload_n 0, 1) := by decide +kernel
theorem d_Md_chunkFault_65 : decode b_Md_chunkFault 65 = .ok (.iload_n 1, 1) := by decide +kernel
theorem d_Md_chunkFault_66 : decode b_Md_chunkFault 66 = .ok (.iconst 1, 1) := by decide +kernel
theorem d_Md_chunkFault_67 : decode b_Md_chunkFault 67 = .ok (.invokevirtual 168, 3) := by decide +kernel
theorem d_Md_chunkFault_70 : decode b_Md_chunkFault 70 = .ok (.istore 4, 2) := by decide +kernel
theorem d_Md_chunkFault_72 : decode b_Md_chunkFault 72 = .ok (.iload_n 2, 1) := by decide +kernel
theorem d_Md_chunkFault_73 : decode b_Md_chunkFault 73 = .ok (.iconst 1, 1) := by decide +kernel
theorem d_Md_chunkFault_74 : decode b_Md_chunkFault 74 = .ok (.if_icmp .ne 63, 3) := by decide +kernel
theorem d_Md_chunkFault_77 : decode b_Md_chunkFault 77 = .ok (.iload 4, 2) := by decide +kernel
theorem d_Md_chunkFault_79 : decode b_Md_chunkFault 79 = .ok (.bipush 8, 2) := by decide +kernel
theorem d_Md_chunkFault_81 : decode b_Md_chunkFault 81 = .ok (.if_icmp .eq 50, 3) := by decide +kernel
theorem d_Md_chunkFault_84 : decode b_Md_chunkFault 84 = .ok (.iload_n 3, 1) := by decide +kernel
theorem d_Md_chunkFault_85 : decode b_Md_chunkFault 85 = .ok (.iconst 2, 1) := by decide +kernel
theorem d_Md_chunkFault_86 : decode b_Md_chunkFault 86 = .ok (.if_icmp .lt 45, 3) := by decide +kernel
theorem d_Md_chunkFault_89 : decode b_Md_chunkFault 89 = .ok (.aload_n 0, 1) := by decide +kernel
theorem d_Md_chunkFault_90 : decode b_Md_chunkFault 90 = .ok (.getfield 32, 3) := by decide +kernel
theorem d_Md_chunkFault_93 : decode b_Md_chunkFault 93 = .ok (.iload_n 1, 1) := by decide +kernel
theorem d_Md_chunkFault_94 : decode b_Md_chunkFault 94 = .ok (.iconst 3, 1) := by decide +kernel
theorem d_Md_chunkFault_95 : decode b_Md_chunkFault 95 = .ok (.iadd, 1) := by decide +kernel
theorem d_Md_chunkFault_96 : decode b_Md_chunkFault 96 = .ok (.iaload, 1) := by decide +kernel
theorem d_Md_chunkFault_97 : decode b_Md_chunkFault 97 = .ok (.iload 4, 2) := by decide +kernel
theorem d_Md_chunkFault_99 : decode b_Md_chunkFault 99 = .ok (.if_icmp .gt 32, 3) := by decide +kernel
theorem d_Md_chunkFault_102 : decode b_Md_chunkFault 102 = .ok (.aload_n 0, 1) := by decide +kernel
theorem d_Md_chunkFault_103 : decode b_Md_chunkFault 103 = .ok (.getfield 32, 3) := by decide +kernel
theorem d_Md_chunkFault_106 : decode b_Md_chunkFault 106 = .ok (.iload_n 1, 1) := by decide +kernel
theorem d_Md_chunkFault_107 : decode b_Md_chunkFault 107 = .ok (.iconst 4, 1) := by decide +kernel
theorem d_Md_chunkFault_108 : decode b_Md_chunkFault 108 = .ok (.iadd, 1) := by decide +kernel
theorem d_Md_chunkFault_109 : decode b_Md_chunkFault 109 = .ok (.iaload, 1) := by decide +kernel
theorem d_Md_chunkFault_110 : decode b_Md_chunkFault 110 = .ok (.bipush 127, 2) := by decide +kernel
theorem d_Md_chunkFault_112 : decode b_Md_chunkFault 112 = .ok (.if_icmp .gt 19, 3) := by decide +kernel
theorem d_Md_chunkFault_115 : decode b_Md_chunkFault 115 = .ok (.aload_n 0, 1) := by decide +kernel
theorem d_Md_chunkFault_116 : decode b_Md_chunkFault 116 = .ok (.getfield 32, 3) := by decide +kernel
theorem d_Md_chunkFault_119 : decode b_Md_chunkFault 119 = .ok (.iload_n 1, 1) := by decide +kernel
theorem d_Md_chunkFault_120 : decode b_Md_chunkFault 120 = .ok (.iconst 4, 1) := by decide +kernel
theorem d_Md_chunkFault_121 : decode b_Md_chunkFault 121 = .ok (.iadd, 1) := by decide +kernel
theorem d_Md_chunkFault_122 : decode b_Md_chunkFault 122 = .ok (.iaload, 1) := by decide +kernel
theorem d_Md_chunkFault_123 : decode b_Md_chunkFault 123 = .ok (.bipush 16, 2) := by decide +kernel
theorem d_Md_chunkFault_125 : decode b_Md_chunkFault 125 = .ok (.irem, 1) := by decide +kernel
theorem d_Md_chunkFault_126 : decode b_Md_chunkFault 126 = .ok (.bipush 7, 2) := by decide +kernel
theorem d_Md_chunkFault_128 : decode b_Md_chunkFault 128 = .ok (.if_icmp .le 7, 3) := by decide +kernel
theorem d_Md_chunkFault_131 : decode b_Md_chunkFault 131 = .ok (.iconst 4, 1) := by decide +kernel
theorem d_Md_chunkFault_132 : decode b_Md_chunkFault 132 = .ok (.goto 4, 3) := by decide +kernel
theorem d_Md_chunkFault_135 : decode b_Md_chunkFault 135 = .ok (.iconst 0, 1) := by decide +kernel
theorem d_Md_chunkFault_136 : decode b_Md_chunkFault 136 = .ok (.ireturn, 1) := by decide +kernel
theorem d_Md_chunkFault_137 : decode b_Md_chunkFault 137 = .ok (.iload_n 2, 1) := by decide +kernel
theorem d_Md_chunkFault_138 : decode b_Md_chunkFault 138 = .ok (.iconst 2, 1) := by decide +kernel
theorem d_Md_chunkFault_139 : decode b_Md_chunkFault 139 = .ok (.if_icmp .le 36, 3) := by decide +kernel
theorem d_Md_chunkFault_142 : decode b_Md_chunkFault 142 = .ok (.aload_n 0, 1) := by decide +kernel
theorem d_Md_chunkFault_143 : decode b_Md_chunkFault 143 = .ok (.iload_n 1, 1) := by decide +kernel
theorem d_Md_chunkFault_144 : decode b_Md_chunkFault 144 = .ok (.iload_n 2, 1) := by decide +kernel
theorem d_Md_chunkFault_145 : decode b_Md_chunkFault 145 = .ok (.invokevirtual 168, 3) := by decide +kernel
theorem d_Md_chunkFault_148 : decode b_Md_chunkFault 148 = .ok (.ifCond .gt 20, 3) := by decide +kernel
theorem d_Md_chunkFault_151 : decode b_Md_chunkFault 151 = .ok (.iload_n 3, 1) := by decide +kernel
theorem d_Md_chunkFault_152 : decode b_Md_chunkFault 152 = .ok (.ifCond .eq 16, 3) := by decide +kernel
theorem d_Md_chunkFault_155 : decode b_Md_chunkFault 155 = .ok (.aload_n 0, 1) := by decide +kernel
theorem d_Md_chunkFault_156 : decode b_Md_chunkFault 156 = .ok (.getfield 32, 3) := by decide +kernel
theorem d_Md_chunkFault_159 : decode b_Md_chunkFault 159 = .ok (.iload_n 1, 1) := by decide +kernel
theorem d_Md_chunkFault_160 : decode b_Md_chunkFault 160 = .ok (.iconst 3, 1) := by decide +kernel
theorem d_Md_chunkFault_161 : decode b_Md_chunkFault 161 = .ok (.iadd, 1) := by decide +kernel
theorem d_Md_chunkFault_162 : decode b_Md_chunkFault 162 = .ok (.iaload, 1) := by decide +kernel
theorem d_Md_chunkFault_163 : decode b_Md_chunkFault 163 = .ok (.bipush 10, 2) := by decide +kernel
theorem d_Md_chunkFault_165 : decode b_Md_chunkFault 165 = .ok (.if_icmp .le 8, 3) := by decide +kernel
theorem d_Md_chunkFault_168 : decode b_Md_chunkFault 168 = .ok (.bipush 6, 2) := by decide +kernel
theorem d_Md_chunkFault_170 : decode b_Md_chunkFault 170 = .ok (.goto 4, 3) := by decide +kernel
theorem d_Md_chunkFault_173 : decode b_Md_chunkFault 173 = .ok (.iconst 0, 1) := by decide +kernel
theorem d_Md_chunkFault_174 : decode b_Md_chunkFault 174 = .ok (.ireturn, 1) := by decide +kernel
theorem d_Md_chunkFault_175 : decode b_Md_chunkFault 175 = .ok (.iload_n 3, 1) := by decide +kernel
theorem d_Md_chunkFault_176 : decode b_Md_chunkFault 176 = .ok (.iconst 2, 1) := by decide +kernel
theorem d_Md_chunkFault_177 : decode b_Md_chunkFault 177 = .ok (.irem, 1) := by decide +kernel
theorem d_Md_chunkFault_178 : decode b_Md_chunkFault 178 = .ok (.iconst 1, 1) := by decide +kernel
theorem d_Md_chunkFault_179 : decode b_Md_chunkFault 179 = .ok (.if_icmp .eq 17, 3) := by decide +kernel
theorem d_Md_chunkFault_182 : decode b_Md_chunkFault 182 = .ok (.aload_n 0, 1) := by decide +kernel
theorem d_Md_chunkFault_183 : decode b_Md_chunkFault 183 = .ok (.iload_n 1, 1) := by decide +kernel
theorem d_Md_chunkFault_184 : decode b_Md_chunkFault 184 = .ok (.invokevirtual 171, 3) := by decide +kernel
theorem d_Md_chunkFault_187 : decode b_Md_chunkFault 187 = .ok (.iload_n 3, 1) := by decide +kernel
theorem d_Md_chunkFault_188 : decode b_Md_chunkFault 188 = .ok (.iconst 2, 1) := by decide +kernel
theorem d_Md_chunkFault_189 : decode b_Md_chunkFault 189 = .ok (.idiv, 1) := by decide +kernel
theorem d_Md_chunkFault_190 : decode b_Md_chunkFault 190 = .ok (.iadd, 1) := by decide +kernel
theorem d_Md_chunkFault_191 : decode b_Md_chunkFault 191 = .ok (.bipush 20, 2) := by decide +kernel
theorem d_Md_chunkFault_193 : decode b_Md_chunkFault 193 = .ok (.if_icmp .le 5, 3) := by decide +kernel
theorem d_Md_chunkFault_196 : decode b_Md_chunkFault 196 = .ok (.iconst 5, 1) := by decide +kernel
theorem d_Md_chunkFault_197 : decode b_Md_chunkFault 197 = .ok (.ireturn, 1) := by decide +kernel
theorem d_Md_chunkFault_198 : decode b_Md_chunkFault 198 = .ok (.iconst 0, 1) := by decide +kernel
theorem d_Md_chunkFault_199 : decode b_Md_chunkFault 199 = .ok (.istore 5, 2) := by decide +kernel
theorem d_Md_chunkFault_201 : decode b_Md_chunkFault 201 = .ok (.iload 5, 2) := by decide +kernel
theorem d_Md_chunkFault_203 : decode b_Md_chunkFault 203 = .ok (.iload_n 3, 1) := by decide +kernel
theorem d_Md_chunkFault_204 : decode b_Md_chunkFault 204 = .ok (.if_icmp .ge 27, 3) := by decide +kernel
theorem d_Md_chunkFault_207 : decode b_Md_chunkFault 207 = .ok (.aload_n 0, 1) := by decide +kernel
theorem d_Md_chunkFault_208 : decode b_Md_chunkFault 208 = .ok (.getfield 32, 3) := by decide +kernel
theorem d_Md_chunkFault_211 : decode b_Md_chunkFault 211 = .ok (.iload_n 1, 1) := by decide +kernel
theorem d_Md_chunkFault_212 : decode b_Md_chunkFault 212 = .ok (.iconst 3, 1) := by decide +kernel
theorem d_Md_chunkFault_213 : decode b_Md_chunkFault 213 = .ok (.iadd, 1) := by decide +kernel
theorem d_Md_chunkFault_214 : decode b_Md_chunkFault 214 = .ok (.iload 5, 2) := by decide +kernel
theorem d_Md_chunkFault_216 : decode b_Md_chunkFault 216 = .ok (.iadd, 1) := by decide +kernel
theorem d_Md_chunkFault_217 : decode b_Md_chunkFault 217 = .ok (.iaload, 1) := by decide +kernel
theorem d_Md_chunkFault_218 : decode b_Md_chunkFault 218 = .ok (.iload 4, 2) := by decide +kernel
theorem d_Md_chunkFault_220 : decode b_Md_chunkFault 220 = .ok (.if_icmp .lt 5, 3) := by decide +kernel
theorem d_Md_chunkFault_223 : decode b_Md_chunkFault 223 = .ok (.iconst 5, 1) := by decide +kernel
theorem d_Md_chunkFault_224 : decode b_Md_chunkFault 224 = .ok (.ireturn, 1) := by decide +kernel
theorem d_Md_chunkFault_225 : decode b_Md_chunkFault 225 = .ok (.iinc 5 2, 3) := by decide +kernel
theorem d_Md_chunkFault_228 : decode b_Md_chunkFault 228 = .ok (.goto (-27), 3) := by decide +kernel
theorem d_Md_chunkFault_231 : decode b_Md_chunkFault 231 = .ok (.iconst 0, 1) := by decide +kernel
theorem d_Md_chunkFault_232 : decode b_Md_chunkFault 232 = .ok (.ireturn, 1) := by decide +kernel
theorem d_Md_fault_0 : decode b_Md_fault 0 = .ok (.aload_n 0, 1) := by decide +kernel
theorem d_Md_fault_1 : decode b_Md_fault 1 = .ok (.getfield 120, 3) := by decide +kernel
theorem d_Md_fault_4 : decode b_Md_fault 4 = .ok (.iconst 2, 1) := by decide +kernel
theorem d_Md_fault_5 : decode b_Md_fault 5 = .ok (.if_icmp .lt 25, 3) := by decide +kernel
theorem d_Md_fault_8 : decode b_Md_fault 8 = .ok (.aload_n 0, 1) := by decide +kernel
theorem d_Md_fault_9 : decode b_Md_fault 9 = .ok (.getfield 32, 3) := by decide +kernel
theorem d_Md_fault_12 : decode b_Md_fault 12 = .ok (.iconst 0, 1) := by decide +kernel
theorem d_Md_fault_13 : decode b_Md_fault 13 = .ok (.iaload, 1) := by decide +kernel
theorem d_Md_fault_14 : decode b_Md_fault 14 = .ok (.bipush 80, 2) := by decide +kernel
theorem d_Md_fault_16 : decode b_Md_fault 16 = .ok (.if_icmp .ne 14, 3) := by decide +kernel
theorem d_Md_fault_19 : decode b_Md_fault 19 = .ok (.aload_n 0, 1) := by decide +kernel
theorem d_Md_fault_20 : decode b_Md_fault 20 = .ok (.getfield 32, 3) := by decide +kernel
theorem d_Md_fault_23 : decode b_Md_fault 23 = .ok (.iconst 1, 1) := by decide +kernel
theorem d_Md_fault_24 : decode b_Md_fault 24 = .ok (.iaload, 1) := by decide +kernel
theorem d_Md_fault_25 : decode b_Md_fault 25 = .ok (.bipush 71, 2) := by decide +kernel
theorem d_Md_fault_27 : decode b_Md_fault 27 = .ok (.if_icmp .eq 5, 3) := by decide +kernel
theorem d_Md_fault_30 : decode b_Md_fault 30 = .ok (.iconst 1, 1) := by decide +kernel
theorem d_Md_fault_31 : decode b_Md_fault 31 = .ok (.ireturn, 1) := by decide +kernel
theorem d_Md_fault_32 : decode b_Md_fault 32 = .ok (.iconst 2, 1) := by decide +kernel
theorem d_Md_fault_33 : decode b_Md_fault 33 = .ok (.istore_n 1, 1) := by decide +kernel
theorem d_Md_fault_34 : decode b_Md_fault 34 = .ok (.iload_n 1, 1) := by decide +kernel
theorem d_Md_fault_35 : decode b_Md_fault 35 = .ok (.aload_n 0, 1) := by decide +kernel
theorem d_Md_fault_36 : decode b_Md_fault 36 = .ok (.getfield 120, 3) := by decide +kernel
theorem d_Md_fault_39 : decode b_Md_fault 39 = .ok (.if_icmp .ge 28, 3) := by decide +kernel
theorem d_Md_fault_42 : decode b_Md_fault 42 = .ok (.aload_n 0, 1) := by decide +kernel
theorem d_Md_fault_43 : decode b_Md_fault 43 = .ok (.iload_n 1, 1) := by decide +kernel
theorem d_Md_fault_44 : decode b_Md_fault 44 = .ok (.invokevirtual 174, 3) := by decide +kernel
theorem d_Md_fault_47 : decode b_Md_fault 47 = .ok (.istore_n 2, 1) := by decide +kernel
theorem d_Md_fault_48 : decode b_Md_fault 48 = .ok (.iload_n 2, 1) := by decide +kernel
theorem d_Md_fault_49 : decode b_Md_fault 49 = .ok (.ifCond .le 5, 3) := by decide +kernel
theorem d_Md_fault_52 : decode b_Md_fault 52 = .ok (.iload_n 2, 1) := by decide +kernel
theorem d_Md_fault_53 : decode b_Md_fault 53 = .ok (.ireturn, 1) := by decide +kernel
theorem d_Md_fault_54 : decode b_Md_fault 54 = .ok (.iload_n 1, 1) := by decide +kernel
theorem d_Md_fault_55 : decode b_Md_fault 55 = .ok (.iconst 3, 1) := by decide +kernel
theorem d_Md_fault_56 : decode b_Md_fault 56 = .ok (.aload_n 0, 1) := by decide +kernel
theorem d_Md_fault_57 : decode b_Md_fault 57 = .ok (.iload_n 1, 1) := by decide +kernel
theorem d_Md_fault_58 : decode b_Md_fault 58 = .ok (.invokevirtual 165, 3) := by decide +kernel
theorem d_Md_fault_61 : decode b_Md_fault 61 = .ok (.iadd, 1) := by decide +kernel
theorem d_Md_fault_62 : decode b_Md_fault 62 = .ok (.iadd, 1) := by decide +kernel
theorem d_Md_fault_63 : decode b_Md_fault 63 = .ok (.istore_n 1, 1) := by decide +kernel
theorem d_Md_fault_64 : decode b_Md_fault 64 = .ok (.goto (-30), 3) := by decide +kernel
theorem d_Md_fault_67 : decode b_Md_fault 67 = .ok (.iconst 0, 1) := by decide +kernel
theorem d_Md_fault_68 : decode b_Md_fault 68 = .ok (.ireturn, 1) := by decide +kernel
theorem d_Md_decode_0 : decode b_Md_decode 0 = .ok (.aload_n 0, 1) := by decide +kernel
theorem d_Md_decode_1 : decode b_Md_decode 1 = .ok (.invokevirtual 177, 3) := by decide +kernel
theorem d_Md_decode_4 : decode b_Md_decode 4 = .ok (.istore_n 1, 1) := by decide +kernel
theorem d_Md_decode_5 : decode b_Md_decode 5 = .ok (.iload_n 1, 1) := by decide +kernel
theorem d_Md_decode_6 : decode b_Md_decode 6 = .ok (.ifCond .le 5, 3) := by decide +kernel
theorem d_Md_decode_9 : decode b_Md_decode 9 = .ok (.iload_n 1, 1) := by decide +kernel
theorem d_Md_decode_10 : decode b_Md_decode 10 = .ok (.ireturn, 1) := by decide +kernel
theorem d_Md_decode_11 : decode b_Md_decode 11 = .ok (.aload_n 0, 1) := by decide +kernel
theorem d_Md_decode_12 : decode b_Md_decode 12 = .ok (.iconst 1, 1) := by decide +kernel
theorem d_Md_decode_13 : decode b_Md_decode 13 = .ok (.putfield 180, 3) := by decide +kernel
theorem d_Md_decode_16 : decode b_Md_decode 16 = .ok (.aload_n 0, 1) := by decide +kernel
theorem d_Md_decode_17 : decode b_Md_decode 17 = .ok (.iconst 0, 1) := by decide +kernel
theorem d_Md_decode_18 : decode b_Md_decode 18 = .ok (.putfield 183, 3) := by decide +kernel
theorem d_Md_decode_21 : decode b_Md_decode 21 = .ok (.aload_n 0, 1) := by decide +kernel
theorem d_Md_decode_22 : decode b_Md_decode 22 = .ok (.iconst 0, 1) := by decide +kernel
theorem d_Md_decode_23 : decode b_Md_decode 23 = .ok (.putfield 186, 3) := by decide +kernel
theorem d_Md_decode_26 : decode b_Md_decode 26 = .ok (.iconst 0, 1) := by decide +kernel
theorem d_Md_decode_27 : decode b_Md_decode 27 = .ok (.istore_n 2, 1) := by decide +kernel
theorem d_Md_decode_28 : decode b_Md_decode 28 = .ok (.iload_n 2, 1) := by decide +kernel
theorem d_Md_decode_29 : decode b_Md_decode 29 = .ok (.sipush 128, 3) := by decide +kernel
theorem d_Md_decode_32 : decode b_Md_decode 32 = .ok (.if_icmp .ge 23, 3) := by decide +kernel
theorem d_Md_decode_35 : decode b_Md_decode 35 = .ok (.aload_n 0, 1) := by decide +kernel
theorem d_Md_decode_36 : decode b_Md_decode 36 = .ok (.getfield 44, 3) := by decide +kernel
theorem d_Md_decode_39 : decode b_Md_decode 39 = .ok (.iload_n 2, 1) := by decide +kernel
theorem d_Md_decode_40 : decode b_Md_decode 40 = .ok (.iconst 0, 1) := by decide +kernel
theorem d_Md_decode_41 : decode b_Md_decode 41 = .ok (.iastore, 1) := by decide +kernel
theorem d_Md_decode_42 : decode b_Md_decode 42 = .ok (.aload_n 0, 1) := by decide +kernel
theorem d_Md_decode_43 : decode b_Md_decode 43 = .ok (.getfield 47, 3) := by decide +kernel
theorem d_Md_decode_46 : decode b_Md_decode 46 = .ok (.iload_n 2, 1) := by decide +kernel
theorem d_Md_decode_47 : decode b_Md_decode 47 = .ok (.iconst 0, 1) := by decide +kernel
theorem d_Md_decode_48 : decode b_Md_decode 48 = .ok (.iastore, 1) := by decide +kernel
theorem d_Md_decode_49 : decode b_Md_decode 49 = .ok (.iinc 2 1, 3) := by decide +kernel
theorem d_Md_decode_52 : decode b_Md_decode 52 = .ok (.goto (-24), 3) := by decide +kernel
theorem d_Md_decode_55 : decode b_Md_decode 55 = .ok (.iconst 2, 1) := by decide +kernel
theorem d_Md_decode_56 : decode b_Md_decode 56 = .ok (.istore_n 2, 1) := by decide +kernel
theorem d_Md_decode_57 : decode b_Md_decode 57 = .ok (.iload_n 2, 1) := by decide +kernel
theorem d_Md_decode_58 : decode b_Md_decode 58 = .ok (.aload_n 0, 1) := by decide +kernel
theorem d_Md_decode_59 : decode b_Md_decode 59 = .ok (.getfield 120, 3) := by decide +kernel
theorem d_Md_decode_62 : decode b_Md_decode 62 = .ok (.if_icmp .ge 65, 3) := by decide +kernel
theorem d_Md_decode_65 : decode b_Md_decode 65 = .ok (.aload_n 0, 1) := by decide +kernel
theorem d_Md_decode_66 : decode b_Md_decode 66 = .ok (.getfield 32, 3) := by decide +kernel
theorem d_Md_decode_69 : decode b_Md_decode 69 = .ok (.iload_n 2, 1) := by decide +kernel
theorem d_Md_decode_70 : decode b_Md_decode 70 = .ok (.iaload, 1) := by decide +kernel
theorem d_Md_decode_71 : decode b_Md_decode 71 = .ok (.iconst 1, 1) := by decide +kernel
theorem d_Md_decode_72 : decode b_Md_decode 72 = .ok (.if_icmp .ne 11, 3) := by decide +kernel
theorem d_Md_decode_75 : decode b_Md_decode 75 = .ok (.aload_n 0, 1) := by decide +kernel
theorem d_Md_decode_76 : decode b_Md_decode 76 = .ok (.iload_n 2, 1) := by decide +kernel
theorem d_Md_decode_77 : decode b_Md_decode 77 = .ok (.invokevirtual 189, 3) := by decide +kernel
theorem d_Md_decode_80 : decode b_Md_decode 80 = .ok (.goto 34, 3) := by decide +kernel
theorem d_Md_decode_83 : decode b_Md_decode 83 = .ok (.aload_n 0, 1) := by decide +kernel
theorem d_Md_decode_84 : decode b_Md_decode 84 = .ok (.getfield 32, 3) := by decide +kernel
theorem d_Md_decode_87 : decode b_Md_decode 87 = .ok (.iload_n 2, 1) := by decide +kernel
theorem d_Md_decode_88 : decode b_Md_decode 88 = .ok (.iaload, 1) := by decide +kernel
theorem d_Md_decode_89 : decode b_Md_decode 89 = .ok (.iconst 2, 1) := by decide +kernel
theorem d_Md_decode_90 : decode b_Md_decode 90 = .ok (.if_icmp .ne 11, 3) := by decide +kernel
theorem d_Md_decode_93 : decode b_Md_decode 93 = .ok (.aload_n 0, 1) := by decide +kernel
theorem d_Md_decode_94 : decode b_Md_decode 94 = .ok (.iload_n 2, 1) := by decide +kernel
theorem d_Md_decode_95 : decode b_Md_decode 95 = .ok (.invokevirtual 192, 3) := by decide +kernel
theorem d_Md_decode_98 : decode b_Md_decode 98 = .ok (.goto 16, 3) := by decide +kernel
theorem d_Md_decode_101 : decode b_Md_decode 101 = .ok (.aload_n 0, 1) := by decide +kernel
theorem d_Md_decode_102 : decode b_Md_decode 102 = .ok (.iload_n 2, 1) := by decide +kernel
theorem d_Md_decode_103 : decode b_Md_decode 103 = .ok (.aload_n 0, 1) := by decide +kernel
theorem d_Md_decode_104 : decode b_Md_decode 104 = .ok (.getfield 32, 3) := by decide +kernel
theorem d_Md_decode_107 : decode b_Md_decode 107 = .ok (.iload_n 2, 1) := by decide +kernel
theorem d_Md_decode_108 : decode b_Md_decode 108 = .ok (.iaload, 1) := by decide +kernel
theorem d_Md_decode_109 : decode b_Md_decode 109 = .ok (.iconst 3, 1) := by decide +kernel
theorem d_Md_decode_110 : decode b_Md_decode 110 = .ok (.isub, 1) := by decide +kernel
theorem d_Md_decode_111 : decode b_Md_decode 111 = .ok (.invokevirtual 195, 3) := by decide +kernel
theorem d_Md_decode_114 : decode b_Md_decode 114 = .ok (.iload_n 2, 1) := by decide +kernel
theorem d_Md_decode_115 : decode b_Md_decode 115 = .ok (.iconst 3, 1) := by decide +kernel
theorem d_Md_decode_116 : decode b_Md_decode 116 = .ok (.aload_n 0, 1) := by decide +kernel
theorem d_Md_decode_117 : decode b_Md_decode 117 = .ok (.iload_n 2, 1) := by decide +kernel
theorem d_Md_decode_118 : decode b_Md_decode 118 = .ok (.invokevirtual 165, 3) := by decide +kernel
theorem d_Md_decode_121 : decode b_Md_decode 121 = .ok (.iadd, 1) := by decide +kernel
theorem d_Md_decode_122 : decode b_Md_decode 122 = .ok (.iadd, 1) := by decide +kernel
theorem d_Md_decode_123 : decode b_Md_decode 123 = .ok (.istore_n 2, 1) := by decide +kernel
theorem d_Md_decode_124 : decode b_Md_decode 124 = .ok (.goto (-67), 3) := by decide +kernel
theorem d_Md_decode_127 : decode b_Md_decode 127 = .ok (.iconst 0, 1) := by decide +kernel
theorem d_Md_decode_128 : decode b_Md_decode 128 = .ok (.ireturn, 1) := by decide +kernel
theorem d_Md_takeShape_0 : decode b_Md_takeShape 0 = .ok (.aload_n 0, 1) := by decide +kernel
theorem d_Md_takeShape_1 : decode b_Md_takeShape 1 = .ok (.getfield 32, 3) := by decide +kernel
theorem d_Md_takeShape_4 : decode b_Md_takeShape 4 = .ok (.iload_n 1, 1) := by decide +kernel
theorem d_Md_takeShape_5 : decode b_Md_takeShape 5 = .ok (.iconst 3, 1) := by decide +kernel
theorem d_Md_takeShape_6 : decode b_Md_takeShape 6 = .ok (.iadd, 1) := by decide +kernel
theorem d_Md_takeShape_7 : decode b_Md_takeShape 7 = .ok (.iaload, 1) := by decide +kernel
theorem d_Md_takeShape_8 : decode b_Md_takeShape 8 = .ok (.iconst 1, 1) := by decide +kernel
theorem d_Md_takeShape_9 : decode b_Md_takeShape 9 = .ok (.isub, 1) := by decide +kernel
theorem d_Md_takeShape_10 : decode b_Md_takeShape 10 = .ok (.istore_n 2, 1) := by decide +kernel
theorem d_Md_takeShape_11 : decode b_Md_takeShape 11 = .ok (.aload_n 0, 1) := by decide +kernel
theorem d_Md_takeShape_12 : decode b_Md_takeShape 12 = .ok (.getfield 32, 3) := by decide +kernel
theorem d_Md_takeShape_15 : decode b_Md_takeShape 15 = .ok (.iload_n 1, 1) := by decide +kernel
theorem d_Md_takeShape_16 : decode b_Md_takeShape 16 = .ok (.iconst 4, 1) := by decide +kernel
theorem d_Md_takeShape_17 : decode b_Md_takeShape 17 = .ok (.iadd, 1) := by decide +kernel
theorem d_Md_takeShape_18 : decode b_Md_takeShape 18 = .ok (.iaload, 1) := by decide +kernel
theorem d_Md_takeShape_19 : decode b_Md_takeShape 19 = .ok (.bipush 16, 2) := by decide +kernel
theorem d_Md_takeShape_21 : decode b_Md_takeShape 21 = .ok (.idiv, 1) := by decide +kernel
theorem d_Md_takeShape_22 : decode b_Md_takeShape 22 = .ok (.iconst 1, 1) := by decide +kernel
theorem d_Md_takeShape_23 : decode b_Md_takeShape 23 = .ok (.iadd, 1) := by decide +kernel
theorem d_Md_takeShape_24 : decode b_Md_takeShape 24 = .ok (.istore_n 3, 1) := by decide +kernel
theorem d_Md_takeShape_25 : decode b_Md_takeShape 25 = .ok (.aload_n 0, 1) := by decide +kernel
theorem d_Md_takeShape_26 : decode b_Md_takeShape 26 = .ok (.getfield 32, 3) := by decide +kernel
theorem d_Md_takeShape_29 : decode b_Md_takeShape 29 = .ok (.iload_n 1, 1) := by decide +kernel
theorem d_Md_takeShape_30 : decode b_Md_takeShape 30 = .ok (.iconst 4, 1) := by decide +kernel
theorem d_Md_takeShape_31 : decode b_Md_takeShape 31 = .ok (.iadd, 1) := by decide +kernel
theorem d_Md_takeShape_32 : decode b_Md_takeShape 32 = .ok (.iaload, 1) := by decide +kernel
theorem d_Md_takeShape_33 : decode b_Md_takeShape 33 = .ok (.bipush 16, 2) := by decide +kernel
theorem d_Md_takeShape_35 : decode b_Md_takeShape 35 = .ok (.irem, 1) := by decide +kernel
theorem d_Md_takeShape_36 : decode b_Md_takeShape 36 = .ok (.iconst 1, 1) := by decide +kernel
theorem d_Md_takeShape_37 : decode b_Md_takeShape 37 = .ok (.iadd, 1) := by decide +kernel
theorem d_Md_takeShape_38 : decode b_Md_takeShape 38 = .ok (.istore 4, 2) := by decide +kernel
theorem d_Md_takeShape_40 : decode b_Md_takeShape 40 = .ok (.aload_n 0, 1) := by decide +kernel
theorem d_Md_takeShape_41 : decode b_Md_takeShape 41 = .ok (.iload_n 1, 1) := by decide +kernel
theorem d_Md_takeShape_42 : decode b_Md_takeShape 42 = .ok (.iconst 5, 1) := by decide +kernel
theorem d_Md_takeShape_43 : decode b_Md_takeShape 43 = .ok (.iadd, 1) := by decide +kernel
theorem d_Md_takeShape_44 : decode b_Md_takeShape 44 = .ok (.aload_n 0, 1) := by decide +kernel
theorem d_Md_takeShape_45 : decode b_Md_takeShape 45 = .ok (.iload_n 1, 1) := by decide +kernel
theorem d_Md_takeShape_46 : decode b_Md_takeShape 46 = .ok (.invokevirtual 165, 3) := by decide +kernel
theorem d_Md_takeShape_49 : decode b_Md_takeShape 49 = .ok (.iconst 2, 1) := by decide +kernel
theorem d_Md_takeShape_50 : decode b_Md_takeShape 50 = .ok (.isub, 1) := by decide +kernel
theorem d_Md_takeShape_51 : decode b_Md_takeShape 51 = .ok (.invokevirtual 198, 3) := by decide +kernel
theorem d_Md_takeShape_54 : decode b_Md_takeShape 54 = .ok (.aload_n 0, 1) := by decide +kernel
theorem d_Md_takeShape_55 : decode b_Md_takeShape 55 = .ok (.getfield 35, 3) := by decide +kernel
theorem d_Md_takeShape_58 : decode b_Md_takeShape 58 = .ok (.aload_n 0, 1) := by decide +kernel
theorem d_Md_takeShape_59 : decode b_Md_takeShape 59 = .ok (.getfield 183, 3) := by decide +kernel
theorem d_Md_takeShape_62 : decode b_Md_takeShape 62 = .ok (.aload_n 0, 1) := by decide +kernel
theorem d_Md_takeShape_63 : decode b_Md_takeShape 63 = .ok (.lconst 0, 1) := by decide +kernel
theorem d_Md_takeShape_64 : decode b_Md_takeShape 64 = .ok (.iload_n 3, 1) := by decide +kernel
theorem d_Md_takeShape_65 : decode b_Md_takeShape 65 = .ok (.iload 4, 2) := by decide +kernel
theorem d_Md_takeShape_67 : decode b_Md_takeShape 67 = .ok (.iload_n 2, 1) := by decide +kernel
theorem d_Md_takeShape_68 : decode b_Md_takeShape 68 = .ok (.ifCond .lt 7, 3) := by decide +kernel
theorem d_Md_takeShape_71 : decode b_Md_takeShape 71 = .ok (.iconst 1, 1) := by decide +kernel
theorem d_Md_takeShape_72 : decode b_Md_takeShape 72 = .ok (.goto 4, 3) := by decide +kernel
theorem d_Md_takeShape_75 : decode b_Md_takeShape 75 = .ok (.iconst 0, 1) := by decide +kernel
theorem d_Md_takeShape_76 : decode b_Md_takeShape 76 = .ok (.iload_n 2, 1) := by decide +kernel
theorem d_Md_takeShape_77 : decode b_Md_takeShape 77 = .ok (.ifCond .ge 7, 3) := by decide +kernel
theorem d_Md_takeShape_80 : decode b_Md_takeShape 80 = .ok (.lconst 0, 1) := by decide +kernel
theorem d_Md_takeShape_81 : decode b_Md_takeShape 81 = .ok (.goto 9, 3) := by decide +kernel
theorem d_Md_takeShape_84 : decode b_Md_takeShape 84 = .ok (.aload_n 0, 1) := by decide +kernel
theorem d_Md_takeShape_85 : decode b_Md_takeShape 85 = .ok (.getfield 35, 3) := by decide +kernel
theorem d_Md_takeShape_88 : decode b_Md_takeShape 88 = .ok (.iload_n 2, 1) := by decide +kernel
theorem d_Md_takeShape_89 : decode b_Md_takeShape 89 = .ok (.laload, 1) := by decide +kernel
theorem d_Md_takeShape_90 : decode b_Md_takeShape 90 = .ok (.invokevirtual 143, 3) := by decide +kernel
theorem d_Md_takeShape_93 : decode b_Md_takeShape 93 = .ok (.lastore, 1) := by decide +kernel
theorem d_Md_takeShape_94 : decode b_Md_takeShape 94 = .ok (.aload_n 0, 1) := by decide +kernel
theorem d_Md_takeShape_95 : decode b_Md_takeShape 95 = .ok (.dup, 1) := by decide +kernel
theorem d_Md_takeShape_96 : decode b_Md_takeShape 96 = .ok (.getfield 183, 3) := by decide +kernel
theorem d_Md_takeShape_99 : decode b_Md_takeShape 99 = .ok (.iconst 1, 1) := by decide +kernel
theorem d_Md_takeShape_100 : decode b_Md_takeShape 100 = .ok (.iadd, 1) := by decide +kernel
theorem d_Md_takeShape_101 : decode b_Md_takeShape 101 = .ok (.putfield 183, 3) := by decide +kernel
theorem d_Md_takeShape_104 : decode b_Md_takeShape 104 = .ok (.return_, 1) := by decide +kernel
theorem d_Md_takePlacings_0 : decode b_Md_takePlacings 0 = .ok (.iconst 0, 1) := by decide +kernel
theorem d_Md_takePlacings_1 : decode b_Md_takePlacings 1 = .ok (.istore_n 2, 1) := by decide +kernel
theorem d_Md_takePlacings_2 : decode b_Md_takePlacings 2 = .ok (.iload_n 2, 1) := by decide +kernel
theorem d_Md_takePlacings_3 : decode b_Md_takePlacings 3 = .ok (.aload_n 0, 1) := by decide +kernel
theorem d_Md_takePlacings_4 : decode b_Md_takePlacings 4 = .ok (.iload_n 1, 1) := by decide +kernel
theorem d_Md_takePlacings_5 : decode b_Md_takePlacings 5 = .ok (.invokevirtual 165, 3) := by decide +kernel
theorem d_Md_takePlacings_8 : decode b_Md_takePlacings 8 = .ok (.if_icmp .ge 57, 3) := by decide +kernel
theorem d_Md_takePlacings_11 : decode b_Md_takePlacings 11 = .ok (.aload_n 0, 1) := by decide +kernel
theorem d_Md_takePlacings_12 : decode b_Md_takePlacings 12 = .ok (.getfield 38, 3) := by decide +kernel
theorem d_Md_takePlacings_15 : decode b_Md_takePlacings 15 = .ok (.aload_n 0, 1) := by decide +kernel
theorem d_Md_takePlacings_16 : decode b_Md_takePlacings 16 = .ok (.getfield 186, 3) := by decide +kernel
theorem d_Md_takePlacings_19 : decode b_Md_takePlacings 19 = .ok (.aload_n 0, 1) := by decide +kernel
theorem d_Md_takePlacings_20 : decode b_Md_takePlacings 20 = .ok (.getfield 32, 3) := by decide +kernel
theorem d_Md_takePlacings_23 : decode b_Md_takePlacings 23 = .ok (.iload_n 1, 1) := by decide +kernel
theorem d_Md_takePlacings_24 : decode b_Md_takePlacings 24 = .ok (.iconst 3, 1) := by decide +kernel
theorem d_Md_takePlacings_25 : decode b_Md_takePlacings 25 = .ok (.iadd, 1) := by decide +kernel
theorem d_Md_takePlacings_26 : decode b_Md_takePlacings 26 = .ok (.iload_n 2, 1) := by decide +kernel
theorem d_Md_takePlacings_27 : decode b_Md_takePlacings 27 = .ok (.iadd, 1) := by decide +kernel
theorem d_Md_takePlacings_28 : decode b_Md_takePlacings 28 = .ok (.iaload, 1) := by decide +kernel
theorem d_Md_takePlacings_29 : decode b_Md_takePlacings 29 = .ok (.iastore, 1) := by decide +kernel
theorem d_Md_takePlacings_30 : decode b_Md_takePlacings 30 = .ok (.aload_n 0, 1) := by decide +kernel
theorem d_Md_takePlacings_31 : decode b_Md_takePlacings 31 = .ok (.getfield 41, 3) := by decide +kernel
theorem d_Md_takePlacings_34 : decode b_Md_takePlacings 34 = .ok (.aload_n 0, 1) := by decide +kernel
theorem d_Md_takePlacings_35 : decode b_Md_takePlacings 35 = .ok (.getfield 186, 3) := by decide +kernel
theorem d_Md_takePlacings_38 : decode b_Md_takePlacings 38 = .ok (.aload_n 0, 1) := by decide +kernel
theorem d_Md_takePlacings_39 : decode b_Md_takePlacings 39 = .ok (.getfield 32, 3) := by decide +kernel
theorem d_Md_takePlacings_42 : decode b_Md_takePlacings 42 = .ok (.iload_n 1, 1) := by decide +kernel
theorem d_Md_takePlacings_43 : decode b_Md_takePlacings 43 = .ok (.iconst 4, 1) := by decide +kernel
theorem d_Md_takePlacings_44 : decode b_Md_takePlacings 44 = .ok (.iadd, 1) := by decide +kernel
theorem d_Md_takePlacings_45 : decode b_Md_takePlacings 45 = .ok (.iload_n 2, 1) := by decide +kernel
theorem d_Md_takePlacings_46 : decode b_Md_takePlacings 46 = .ok (.iadd, 1) := by decide +kernel
theorem d_Md_takePlacings_47 : decode b_Md_takePlacings 47 = .ok (.iaload, 1) := by decide +kernel
theorem d_Md_takePlacings_48 : decode b_Md_takePlacings 48 = .ok (.iastore, 1) := by decide +kernel
theorem d_Md_takePlacings_49 : decode b_Md_takePlacings 49 = .ok (.aload_n 0, 1) := by decide +kernel
theorem d_Md_takePlacings_50 : decode b_Md_takePlacings 50 = .ok (.dup, 1) := by decide +kernel
theorem d_Md_takePlacings_51 : decode b_Md_takePlacings 51 = .ok (.getfield 186, 3) := by decide +kernel
theorem d_Md_takePlacings_54 : decode b_Md_takePlacings 54 = .ok (.iconst 1, 1) := by decide +kernel
theorem d_Md_takePlacings_55 : decode b_Md_takePlacings 55 = .ok (.iadd, 1) := by decide +kernel
theorem d_Md_takePlacings_56 : decode b_Md_takePlacings 56 = .ok (.putfield 186, 3) := by decide +kernel
theorem d_Md_takePlacings_59 : decode b_Md_takePlacings 59 = .ok (.iinc 2 2, 3) := by decide +kernel
theorem d_Md_takePlacings_62 : decode b_Md_takePlacings 62 = .ok (.goto (-60), 3) := by decide +kernel
theorem d_Md_takePlacings_65 : decode b_Md_takePlacings 65 = .ok (.return_, 1) := by decide +kernel
theorem d_Md_takeLayer_0 : decode b_Md_takeLayer 0 = .ok (.iload_n 2, 1) := by decide +kernel
theorem d_Md_takeLayer_1 : decode b_Md_takeLayer 1 = .ok (.invokestatic 90, 3) := by decide +kernel
theorem d_Md_takeLayer_4 : decode b_Md_takeLayer 4 = .ok (.istore_n 3, 1) := by decide +kernel
theorem d_Md_takeLayer_5 : decode b_Md_takeLayer 5 = .ok (.aload_n 0, 1) := by decide +kernel
theorem d_Md_takeLayer_6 : decode b_Md_takeLayer 6 = .ok (.getfield 32, 3) := by decide +kernel
theorem d_Md_takeLayer_9 : decode b_Md_takeLayer 9 = .ok (.iload_n 1, 1) := by decide +kernel
theorem d_Md_takeLayer_10 : decode b_Md_takeLayer 10 = .ok (.iconst 3, 1) := by decide +kernel
theorem d_Md_takeLayer_11 : decode b_Md_takeLayer 11 = .ok (.iadd, 1) := by decide +kernel
theorem d_Md_takeLayer_12 : decode b_Md_takeLayer 12 = .ok (.iaload, 1) := by decide +kernel
theorem d_Md_takeLayer_13 : decode b_Md_takeLayer 13 = .ok (.istore 4, 2) := by decide +kernel
theorem d_Md_takeLayer_15 : decode b_Md_takeLayer 15 = .ok (.iconst 0, 1) := by decide +kernel
theorem d_Md_takeLayer_16 : decode b_Md_takeLayer 16 = .ok (.istore 5, 2) := by decide +kernel
theorem d_Md_takeLayer_18 : decode b_Md_takeLayer 18 = .ok (.iload 5, 2) := by decide +kernel
theorem d_Md_takeLayer_20 : decode b_Md_takeLayer 20 = .ok (.bipush 64, 2) := by decide +kernel
theorem d_Md_takeLayer_22 : decode b_Md_takeLayer 22 = .ok (.if_icmp .ge 17, 3) := by decide +kernel
theorem d_Md_takeLayer_25 : decode b_Md_takeLayer 25 = .ok (.aload_n 0, 1) := by decide +kernel
theorem d_Md_takeLayer_26 : decode b_Md_takeLayer 26 = .ok (.getfield 59, 3) := by decide +kernel
theorem d_Md_takeLayer_29 : decode b_Md_takeLayer 29 = .ok (.iload 5, 2) := by decide +kernel
theorem d_Md_takeLayer_31 : decode b_Md_takeLayer 31 = .ok (.iconst 0, 1) := by decide +kernel
theorem d_Md_takeLayer_32 : decode b_Md_takeLayer 32 = .ok (.iastore, 1) := by decide +kernel
theorem d_Md_takeLayer_33 : decode b_Md_takeLayer 33 = .ok (.iinc 5 1, 3) := by decide +kernel
theorem d_Md_takeLayer_36 : decode b_Md_takeLayer 36 = .ok (.goto (-18), 3) := by decide +kernel
theorem d_Md_takeLayer_39 : decode b_Md_takeLayer 39 = .ok (.aload_n 0, 1) := by decide +kernel
theorem d_Md_takeLayer_40 : decode b_Md_takeLayer 40 = .ok (.iload_n 1, 1) := by decide +kernel
theorem d_Md_takeLayer_41 : decode b_Md_takeLayer 41 = .ok (.iconst 4, 1) := by decide +kernel
theorem d_Md_takeLayer_42 : decode b_Md_takeLayer 42 = .ok (.iadd, 1) := by decide +kernel
theorem d_Md_takeLayer_43 : decode b_Md_takeLayer 43 = .ok (.aload_n 0, 1) := by decide +kernel
theorem d_Md_takeLayer_44 : decode b_Md_takeLayer 44 = .ok (.iload_n 1, 1) := by decide +kernel
theorem d_Md_takeLayer_45 : decode b_Md_takeLayer 45 = .ok (.invokevirtual 165, 3) := by decide +kernel
theorem d_Md_takeLayer_48 : decode b_Md_takeLayer 48 = .ok (.iconst 1, 1) := by decide +kernel
theorem d_Md_takeLayer_49 : decode b_Md_takeLayer 49 = .ok (.isub, 1) := by decide +kernel
theorem d_Md_takeLayer_50 : decode b_Md_takeLayer 50 = .ok (.invokevirtual 198, 3) := by decide +kernel
theorem d_Md_takeLayer_53 : decode b_Md_takeLayer 53 = .ok (.aload_n 0, 1) := by decide +kernel
theorem d_Md_takeLayer_54 : decode b_Md_takeLayer 54 = .ok (.iload_n 3, 1) := by decide +kernel
theorem d_Md_takeLayer_55 : decode b_Md_takeLayer 55 = .ok (.iload 4, 2) := by decide +kernel
theorem d_Md_takeLayer_57 : decode b_Md_takeLayer 57 = .ok (.invokevirtual 157, 3) := by decide +kernel
theorem d_Md_takeLayer_60 : decode b_Md_takeLayer 60 = .ok (.iconst 0, 1) := by decide +kernel
theorem d_Md_takeLayer_61 : decode b_Md_takeLayer 61 = .ok (.istore 5, 2) := by decide +kernel
theorem d_Md_takeLayer_63 : decode b_Md_takeLayer 63 = .ok (.iload 5, 2) := by decide +kernel
theorem d_Md_takeLayer_65 : decode b_Md_takeLayer 65 = .ok (.bipush 64, 2) := by decide +kernel
theorem d_Md_takeLayer_67 : decode b_Md_takeLayer 67 = .ok (.if_icmp .ge 68, 3) := by decide +kernel
theorem d_Md_takeLayer_70 : decode b_Md_takeLayer 70 = .ok (.aload_n 0, 1) := by decide +kernel
theorem d_Md_takeLayer_71 : decode b_Md_takeLayer 71 = .ok (.getfield 68, 3) := by decide +kernel
theorem d_Md_takeLayer_74 : decode b_Md_takeLayer 74 = .ok (.iload 5, 2) := by decide +kernel
theorem d_Md_takeLayer_76 : decode b_Md_takeLayer 76 = .ok (.iaload, 1) := by decide +kernel
theorem d_Md_takeLayer_77 : decode b_Md_takeLayer 77 = .ok (.bipush 10, 2) := by decide +kernel
theorem d_Md_takeLayer_79 : decode b_Md_takeLayer 79 = .ok (.iload 4, 2) := by decide +kernel
theorem d_Md_takeLayer_81 : decode b_Md_takeLayer 81 = .ok (.isub, 1) := by decide +kernel
theorem d_Md_takeLayer_82 : decode b_Md_takeLayer 82 = .ok (.ishl, 1) := by decide +kernel
theorem d_Md_takeLayer_83 : decode b_Md_takeLayer 83 = .ok (.istore 6, 2) := by decide +kernel
theorem d_Md_takeLayer_85 : decode b_Md_takeLayer 85 = .ok (.aload_n 0, 1) := by decide +kernel
theorem d_Md_takeLayer_86 : decode b_Md_takeLayer 86 = .ok (.getfield 59, 3) := by decide +kernel
theorem d_Md_takeLayer_89 : decode b_Md_takeLayer 89 = .ok (.iload 5, 2) := by decide +kernel
theorem d_Md_takeLayer_91 : decode b_Md_takeLayer 91 = .ok (.aload_n 0, 1) := by decide +kernel
theorem d_Md_takeLayer_92 : decode b_Md_takeLayer 92 = .ok (.getfield 71, 3) := by decide +kernel
theorem d_Md_takeLayer_95 : decode b_Md_takeLayer 95 = .ok (.iload 5, 2) := by decide +kernel
theorem d_Md_takeLayer_97 : decode b_Md_takeLayer 97 = .ok (.baload, 1) := by decide +kernel
theorem d_Md_takeLayer_98 : decode b_Md_takeLayer 98 = .ok (.ifCond .eq 9, 3) := by decide +kernel
theorem d_Md_takeLayer_101 : decode b_Md_takeLayer 101 = .ok (.iload 6, 2) := by decide +kernel
theorem d_Md_takeLayer_103 : decode b_Md_takeLayer 103 = .ok (.ineg, 1) := by decide +kernel
theorem d_Md_takeLayer_104 : decode b_Md_takeLayer 104 = .ok (.goto 5, 3) := by decide +kernel
theorem d_Md_takeLayer_107 : decode b_Md_takeLayer 107 = .ok (.iload 6, 2) := by decide +kernel
theorem d_Md_takeLayer_109 : decode b_Md_takeLayer 109 = .ok (.iastore, 1) := by decide +kernel
theorem d_Md_takeLayer_110 : decode b_Md_takeLayer 110 = .ok (.aload_n 0, 1) := by decide +kernel
theorem d_Md_takeLayer_111 : decode b_Md_takeLayer 111 = .ok (.getfield 44, 3) := by decide +kernel
theorem d_Md_takeLayer_114 : decode b_Md_takeLayer 114 = .ok (.bipush 64, 2) := by decide +kernel
theorem d_Md_takeLayer_116 : decode b_Md_takeLayer 116 = .ok (.iload_n 2, 1) := by decide +kernel
theorem d_Md_takeLayer_117 : decode b_Md_takeLayer 117 = .ok (.imul, 1) := by decide +kernel
theorem d_Md_takeLayer_118 : decode b_Md_takeLayer 118 = .ok (.iload 5, 2) := by decide +kernel
theorem d_Md_takeLayer_120 : decode b_Md_takeLayer 120 = .ok (.iadd, 1) := by decide +kernel
theorem d_Md_takeLayer_121 : decode b_Md_takeLayer 121 = .ok (.aload_n 0, 1) := by decide +kernel
theorem d_Md_takeLayer_122 : decode b_Md_takeLayer 122 = .ok (.getfield 59, 3) := by decide +kernel
theorem d_Md_takeLayer_125 : decode b_Md_takeLayer 125 = .ok (.iload 5, 2) := by decide +kernel
theorem d_Md_takeLayer_127 : decode b_Md_takeLayer 127 = .ok (.iaload, 1) := by decide +kernel
theorem d_Md_takeLayer_128 : decode b_Md_takeLayer 128 = .ok (.iastore, 1) := by decide +kernel
theorem d_Md_takeLayer_129 : decode b_Md_takeLayer 129 = .ok (.iinc 5 1, 3) := by decide +kernel
theorem d_Md_takeLayer_132 : decode b_Md_takeLayer 132 = .ok (.goto (-69), 3) := by decide +kernel
theorem d_Md_takeLayer_135 : decode b_Md_takeLayer 135 = .ok (.iconst 2, 1) := by decide +kernel
theorem d_Md_takeLayer_136 : decode b_Md_takeLayer 136 = .ok (.istore 5, 2) := by decide +kernel
theorem d_Md_takeLayer_138 : decode b_Md_takeLayer 138 = .ok (.iload 5, 2) := by decide +kernel
theorem d_Md_takeLayer_140 : decode b_Md_takeLayer 140 = .ok (.iload_n 3, 1) := by decide +kernel
theorem d_Md_takeLayer_141 : decode b_Md_takeLayer 141 = .ok (.if_icmp .gt 28, 3) := by decide +kernel
theorem d_Md_takeLayer_144 : decode b_Md_takeLayer 144 = .ok (.aload_n 0, 1) := by decide +kernel
theorem d_Md_takeLayer_145 : decode b_Md_takeLayer 145 = .ok (.iload 5, 2) := by decide +kernel
theorem d_Md_takeLayer_147 : decode b_Md_takeLayer 147 = .ok (.iconst 0, 1) := by decide +kernel
theorem d_Md_takeLayer_148 : decode b_Md_takeLayer 148 = .ok (.iconst 0, 1) := by decide +kernel
theorem d_Md_takeLayer_149 : decode b_Md_takeLayer 149 = .ok (.invokevirtual 153, 3) := by decide +kernel
theorem d_Md_takeLayer_152 : decode b_Md_takeLayer 152 = .ok (.aload_n 0, 1) := by decide +kernel
theorem d_Md_takeLayer_153 : decode b_Md_takeLayer 153 = .ok (.iload 5, 2) := by decide +kernel
theorem d_Md_takeLayer_155 : decode b_Md_takeLayer 155 = .ok (.iconst 1, 1) := by decide +kernel
theorem d_Md_takeLayer_156 : decode b_Md_takeLayer 156 = .ok (.iconst 0, 1) := by decide +kernel
theorem d_Md_takeLayer_157 : decode b_Md_takeLayer 157 = .ok (.invokevirtual 153, 3) := by decide +kernel
theorem d_Md_takeLayer_160 : decode b_Md_takeLayer 160 = .ok (.iload 5, 2) := by decide +kernel
theorem d_Md_takeLayer_162 : decode b_Md_takeLayer 162 = .ok (.iconst 2, 1) := by decide +kernel
theorem d_Md_takeLayer_163 : decode b_Md_takeLayer 163 = .ok (.imul, 1) := by decide +kernel
theorem d_Md_takeLayer_164 : decode b_Md_takeLayer 164 = .ok (.istore 5, 2) := by decide +kernel
theorem d_Md_takeLayer_166 : decode b_Md_takeLayer 166 = .ok (.goto (-28), 3) := by decide +kernel
theorem d_Md_takeLayer_169 : decode b_Md_takeLayer 169 = .ok (.iconst 0, 1) := by decide +kernel
theorem d_Md_takeLayer_170 : decode b_Md_takeLayer 170 = .ok (.istore 5, 2) := by decide +kernel
theorem d_Md_takeLayer_172 : decode b_Md_takeLayer 172 = .ok (.iload 5, 2) := by decide +kernel
theorem d_Md_takeLayer_174 : decode b_Md_takeLayer 174 = .ok (.bipush 64, 2) := by decide +kernel
theorem d_Md_takeLayer_176 : decode b_Md_takeLayer 176 = .ok (.if_icmp .ge 28, 3) := by decide +kernel
theorem d_Md_takeLayer_179 : decode b_Md_takeLayer 179 = .ok (.aload_n 0, 1) := by decide +kernel
theorem d_Md_takeLayer_180 : decode b_Md_takeLayer 180 = .ok (.getfield 47, 3) := by decide +kernel
theorem d_Md_takeLayer_183 : decode b_Md_takeLayer 183 = .ok (.bipush 64, 2) := by decide +kernel
theorem d_Md_takeLayer_185 : decode b_Md_takeLayer 185 = .ok (.iload_n 2, 1) := by decide +kernel
theorem d_Md_takeLayer_186 : decode b_Md_takeLayer 186 = .ok (.imul, 1) := by decide +kernel
theorem d_Md_takeLayer_187 : decode b_Md_takeLayer 187 = .ok (.iload 5, 2) := by decide +kernel
theorem d_Md_takeLayer_189 : decode b_Md_takeLayer 189 = .ok (.iadd, 1) := by decide +kernel
theorem d_Md_takeLayer_190 : decode b_Md_takeLayer 190 = .ok (.aload_n 0, 1) := by decide +kernel
theorem d_Md_takeLayer_191 : decode b_Md_takeLayer 191 = .ok (.getfield 59, 3) := by decide +kernel
theorem d_Md_takeLayer_194 : decode b_Md_takeLayer 194 = .ok (.iload 5, 2) := by decide +kernel
theorem d_Md_takeLayer_196 : decode b_Md_takeLayer 196 = .ok (.iaload, 1) := by decide +kernel
theorem d_Md_takeLayer_197 : decode b_Md_takeLayer 197 = .ok (.iastore, 1) := by decide +kernel
theorem d_Md_takeLayer_198 : decode b_Md_takeLayer 198 = .ok (.iinc 5 1, 3) := by decide +kernel
theorem d_Md_takeLayer_201 : decode b_Md_takeLayer 201 = .ok (.goto (-29), 3) := by decide +kernel
theorem d_Md_takeLayer_204 : decode b_Md_takeLayer 204 = .ok (.return_, 1) := by decide +kernel
theorem d_Md_inked_0 : decode b_Md_inked 0 = .ok (.iconst 0, 1) := by decide +kernel
theorem d_Md_inked_1 : decode b_Md_inked 1 = .ok (.istore_n 3, 1) := by decide +kernel
theorem d_Md_inked_2 : decode b_Md_inked 2 = .ok (.iconst 0, 1) := by decide +kernel
theorem d_Md_inked_3 : decode b_Md_inked 3 = .ok (.istore 4, 2) := by decide +kernel
theorem d_Md_inked_5 : decode b_Md_inked 5 = .ok (.iload 4, 2) := by decide +kernel
theorem d_Md_inked_7 : decode b_Md_inked 7 = .ok (.aload_n 0, 1) := by decide +kernel
theorem d_Md_inked_8 : decode b_Md_inked 8 = .ok (.getfield 186, 3) := by decide +kernel
theorem d_Md_inked_11 : decode b_Md_inked 11 = .ok (.if_icmp .ge 95, 3) := by decide +kernel
theorem d_Md_inked_14 : decode b_Md_inked 14 = .ok (.aload_n 0, 1) := by decide +kernel
theorem d_Md_inked_15 : decode b_Md_inked 15 = .ok (.getfield 180, 3) := by decide +kernel
theorem d_Md_inked_18 : decode b_Md_inked 18 = .ok (.ifCond .eq 88, 3) := by decide +kernel
theorem d_Md_inked_21 : decode b_Md_inked 21 = .ok (.iload_n 1, 1) := by decide +kernel
theorem d_Md_inked_22 : decode b_Md_inked 22 = .ok (.bipush 15, 2) := by decide +kernel
theorem d_Md_inked_24 : decode b_Md_inked 24 = .ok (.invokestatic 75, 3) := by decide +kernel
theorem d_Md_inked_27 : decode b_Md_inked 27 = .ok (.ifCond .ne 79, 3) := by decide +kernel
theorem d_Md_inked_30 : decode b_Md_inked 30 = .ok (.iload_n 2, 1) := by decide +kernel
theorem d_Md_inked_31 : decode b_Md_inked 31 = .ok (.bipush 15, 2) := by decide +kernel
theorem d_Md_inked_33 : decode b_Md_inked 33 = .ok (.invokestatic 75, 3) := by decide +kernel
theorem d_Md_inked_36 : decode b_Md_inked 36 = .ok (.ifCond .ne 70, 3) := by decide +kernel
theorem d_Md_inked_39 : decode b_Md_inked 39 = .ok (.iload_n 1, 1) := by decide +kernel
theorem d_Md_inked_40 : decode b_Md_inked 40 = .ok (.aload_n 0, 1) := by decide +kernel
theorem d_Md_inked_41 : decode b_Md_inked 41 = .ok (.getfield 41, 3) := by decide +kernel
theorem d_Md_inked_44 : decode b_Md_inked 44 = .ok (.iload 4, 2) := by decide +kernel
theorem d_Md_inked_46 : decode b_Md_inked 46 = .ok (.iaload, 1) := by decide +kernel
theorem d_Md_inked_47 : decode b_Md_inked 47 = .ok (.bipush 16, 2) := by decide +kernel
theorem d_Md_inked_49 : decode b_Md_inked 49 = .ok (.idiv, 1) := by decide +kernel
theorem d_Md_inked_50 : decode b_Md_inked 50 = .ok (.isub, 1) := by decide +kernel
theorem d_Md_inked_51 : decode b_Md_inked 51 = .ok (.istore 5, 2) := by decide +kernel
theorem d_Md_inked_53 : decode b_Md_inked 53 = .ok (.iload_n 2, 1) := by decide +kernel
theorem d_Md_inked_54 : decode b_Md_inked 54 = .ok (.aload_n 0, 1) := by decide +kernel
theorem d_Md_inked_55 : decode b_Md_inked 55 = .ok (.getfield 41, 3) := by decide +kernel
theorem d_Md_inked_58 : decode b_Md_inked 58 = .ok (.iload 4, 2) := by decide +kernel
theorem d_Md_inked_60 : decode b_Md_inked 60 = .ok (.iaload, 1) := by decide +kernel
theorem d_Md_inked_61 : decode b_Md_inked 61 = .ok (.bipush 16, 2) := by decide +kernel
theorem d_Md_inked_63 : decode b_Md_inked 63 = .ok (.irem, 1) := by decide +kernel
theorem d_Md_inked_64 : decode b_Md_inked 64 = .ok (.isub, 1) := by decide +kernel
theorem d_Md_inked_65 : decode b_Md_inked 65 = .ok (.istore 6, 2) := by decide +kernel
theorem d_Md_inked_67 : decode b_Md_inked 67 = .ok (.iload_n 3, 1) := by decide +kernel
theorem d_Md_inked_68 : decode b_Md_inked 68 = .ok (.ifCond .ne 26, 3) := by decide +kernel
theorem d_Md_inked_71 : decode b_Md_inked 71 = .ok (.aload_n 0, 1) := by decide +kernel
theorem d_Md_inked_72 : decode b_Md_inked 72 = .ok (.getfield 35, 3) := by decide +kernel
theorem d_Md_inked_75 : decode b_Md_inked 75 = .ok (.aload_n 0, 1) := by decide +kernel
theorem d_Md_inked_76 : decode b_Md_inked 76 = .ok (.getfield 38, 3) := by decide +kernel
theorem d_Md_inked_79 : decode b_Md_inked 79 = .ok (.iload 4, 2) := by decide +kernel
theorem d_Md_inked_81 : decode b_Md_inked 81 = .ok (.iaload, 1) := by decide +kernel
theorem d_Md_inked_82 : decode b_Md_inked 82 = .ok (.laload, 1) := by decide +kernel
theorem d_Md_inked_83 : decode b_Md_inked 83 = .ok (.iload 5, 2) := by decide +kernel
theorem d_Md_inked_85 : decode b_Md_inked 85 = .ok (.iload 6, 2) := by decide +kernel
theorem d_Md_inked_87 : decode b_Md_inked 87 = .ok (.invokestatic 83, 3) := by decide +kernel
theorem d_Md_inked_90 : decode b_Md_inked 90 = .ok (.iconst 1, 1) := by decide +kernel
theorem d_Md_inked_91 : decode b_Md_inked 91 = .ok (.if_icmp .ne 7, 3) := by decide +kernel
theorem d_Md_inked_94 : decode b_Md_inked 94 = .ok (.iconst 1, 1) := by decide +kernel
theorem d_Md_inked_95 : decode b_Md_inked 95 = .ok (.goto 4, 3) := by decide +kernel
theorem d_Md_inked_98 : decode b_Md_inked 98 = .ok (.iconst 0, 1) := by decide +kernel
theorem d_Md_inked_99 : decode b_Md_inked 99 = .ok (.istore_n 3, 1) := by decide +kernel
theorem d_Md_inked_100 : decode b_Md_inked 100 = .ok (.iinc 4 1, 3) := by decide +kernel
theorem d_Md_inked_103 : decode b_Md_inked 103 = .ok (.goto (-98), 3) := by decide +kernel
theorem d_Md_inked_106 : decode b_Md_inked 106 = .ok (.iload_n 3, 1) := by decide +kernel
theorem d_Md_inked_107 : decode b_Md_inked 107 = .ok (.ireturn, 1) := by decide +kernel
theorem d_Md_noCell_0 : decode b_Md_noCell 0 = .ok (.aload_n 0, 1) := by decide +kernel
theorem d_Md_noCell_1 : decode b_Md_noCell 1 = .ok (.getfield 180, 3) := by decide +kernel
theorem d_Md_noCell_4 : decode b_Md_noCell 4 = .ok (.ifCond .eq 37, 3) := by decide +kernel
theorem d_Md_noCell_7 : decode b_Md_noCell 7 = .ok (.iload_n 1, 1) := by decide +kernel
theorem d_Md_noCell_8 : decode b_Md_noCell 8 = .ok (.iconst 1, 1) := by decide +kernel
theorem d_Md_noCell_9 : decode b_Md_noCell 9 = .ok (.invokestatic 75, 3) := by decide +kernel
theorem d_Md_noCell_12 : decode b_Md_noCell 12 = .ok (.ifCond .ne 29, 3) := by decide +kernel
theorem d_Md_noCell_15 : decode b_Md_noCell 15 = .ok (.iload_n 2, 1) := by decide +kernel
theorem d_Md_noCell_16 : decode b_Md_noCell 16 = .ok (.iload_n 1, 1) := by decide +kernel
theorem d_Md_noCell_17 : decode b_Md_noCell 17 = .ok (.invokestatic 90, 3) := by decide +kernel
theorem d_Md_noCell_20 : decode b_Md_noCell 20 = .ok (.iconst 1, 1) := by decide +kernel
theorem d_Md_noCell_21 : decode b_Md_noCell 21 = .ok (.isub, 1) := by decide +kernel
theorem d_Md_noCell_22 : decode b_Md_noCell 22 = .ok (.invokestatic 75, 3) := by decide +kernel
theorem d_Md_noCell_25 : decode b_Md_noCell 25 = .ok (.ifCond .ne 16, 3) := by decide +kernel
theorem d_Md_noCell_28 : decode b_Md_noCell 28 = .ok (.iload_n 3, 1) := by decide +kernel
theorem d_Md_noCell_29 : decode b_Md_noCell 29 = .ok (.iload_n 1, 1) := by decide +kernel
theorem d_Md_noCell_30 : decode b_Md_noCell 30 = .ok (.invokestatic 90, 3) := by decide +kernel
theorem d_Md_noCell_33 : decode b_Md_noCell 33 = .ok (.iconst 1, 1) := by decide +kernel
theorem d_Md_noCell_34 : decode b_Md_noCell 34 = .ok (.isub, 1) := by decide +kernel
theorem d_Md_noCell_35 : decode b_Md_noCell 35 = .ok (.invokestatic 75, 3) := by decide +kernel
theorem d_Md_noCell_38 : decode b_Md_noCell 38 = .ok (.ifCond .eq 7, 3) := by decide +kernel
theorem d_Md_noCell_41 : decode b_Md_noCell 41 = .ok (.iconst 1, 1) := by decide +kernel
theorem d_Md_noCell_42 : decode b_Md_noCell 42 = .ok (.goto 4, 3) := by decide +kernel
theorem d_Md_noCell_45 : decode b_Md_noCell 45 = .ok (.iconst 0, 1) := by decide +kernel
theorem d_Md_noCell_46 : decode b_Md_noCell 46 = .ok (.ireturn, 1) := by decide +kernel
theorem d_Md_cell_0 : decode b_Md_cell 0 = .ok (.aload_n 0, 1) := by decide +kernel
theorem d_Md_cell_1 : decode b_Md_cell 1 = .ok (.iload_n 1, 1) := by decide +kernel
theorem d_Md_cell_2 : decode b_Md_cell 2 = .ok (.iload_n 2, 1) := by decide +kernel
theorem d_Md_cell_3 : decode b_Md_cell 3 = .ok (.iload_n 3, 1) := by decide +kernel
theorem d_Md_cell_4 : decode b_Md_cell 4 = .ok (.invokevirtual 201, 3) := by decide +kernel
theorem d_Md_cell_7 : decode b_Md_cell 7 = .ok (.ifCond .eq 5, 3) := by decide +kernel
theorem d_Md_cell_10 : decode b_Md_cell 10 = .ok (.iconst (-1), 1) := by decide +kernel
theorem d_Md_cell_11 : decode b_Md_cell 11 = .ok (.ireturn, 1) := by decide +kernel
theorem d_Md_cell_12 : decode b_Md_cell 12 = .ok (.aload_n 0, 1) := by decide +kernel
theorem d_Md_cell_13 : decode b_Md_cell 13 = .ok (.getfield 47, 3) := by decide +kernel
theorem d_Md_cell_16 : decode b_Md_cell 16 = .ok (.bipush 64, 2) := by decide +kernel
theorem d_Md_cell_18 : decode b_Md_cell 18 = .ok (.iload_n 1, 1) := by decide +kernel
theorem d_Md_cell_19 : decode b_Md_cell 19 = .ok (.imul, 1) := by decide +kernel
theorem d_Md_cell_20 : decode b_Md_cell 20 = .ok (.bipush 8, 2) := by decide +kernel
theorem d_Md_cell_22 : decode b_Md_cell 22 = .ok (.iload_n 3, 1) := by decide +kernel
theorem d_Md_cell_23 : decode b_Md_cell 23 = .ok (.imul, 1) := by decide +kernel
theorem d_Md_cell_24 : decode b_Md_cell 24 = .ok (.iadd, 1) := by decide +kernel
theorem d_Md_cell_25 : decode b_Md_cell 25 = .ok (.iload_n 2, 1) := by decide +kernel
theorem d_Md_cell_26 : decode b_Md_cell 26 = .ok (.iadd, 1) := by decide +kernel
theorem d_Md_cell_27 : decode b_Md_cell 27 = .ok (.iaload, 1) := by decide +kernel
theorem d_Md_cell_28 : decode b_Md_cell 28 = .ok (.istore 4, 2) := by decide +kernel
theorem d_Md_cell_30 : decode b_Md_cell 30 = .ok (.iload 4, 2) := by decide +kernel
theorem d_Md_cell_32 : decode b_Md_cell 32 = .ok (.ifCond .ge 7, 3) := by decide +kernel
theorem d_Md_cell_35 : decode b_Md_cell 35 = .ok (.iconst 0, 1) := by decide +kernel
theorem d_Md_cell_36 : decode b_Md_cell 36 = .ok (.goto 17, 3) := by decide +kernel
theorem d_Md_cell_39 : decode b_Md_cell 39 = .ok (.iload 4, 2) := by decide +kernel
theorem d_Md_cell_41 : decode b_Md_cell 41 = .ok (.bipush 63, 2) := by decide +kernel
theorem d_Md_cell_43 : decode b_Md_cell 43 = .ok (.if_icmp .le 8, 3) := by decide +kernel
theorem d_Md_cell_46 : decode b_Md_cell 46 = .ok (.bipush 63, 2) := by decide +kernel
theorem d_Md_cell_48 : decode b_Md_cell 48 = .ok (.goto 5, 3) := by decide +kernel
theorem d_Md_cell_51 : decode b_Md_cell 51 = .ok (.iload 4, 2) := by decide +kernel
theorem d_Md_cell_53 : decode b_Md_cell 53 = .ok (.ireturn, 1) := by decide +kernel
theorem d_Md_pixel_0 : decode b_Md_pixel 0 = .ok (.aload_n 0, 1) := by decide +kernel
theorem d_Md_pixel_1 : decode b_Md_pixel 1 = .ok (.getfield 180, 3) := by decide +kernel
theorem d_Md_pixel_4 : decode b_Md_pixel 4 = .ok (.ifCond .eq 21, 3) := by decide +kernel
theorem d_Md_pixel_7 : decode b_Md_pixel 7 = .ok (.iload_n 1, 1) := by decide +kernel
theorem d_Md_pixel_8 : decode b_Md_pixel 8 = .ok (.bipush 15, 2) := by decide +kernel
theorem d_Md_pixel_10 : decode b_Md_pixel 10 = .ok (.invokestatic 75, 3) := by decide +kernel
theorem d_Md_pixel_13 : decode b_Md_pixel 13 = .ok (.ifCond .ne 12, 3) := by decide +kernel
theorem d_Md_pixel_16 : decode b_Md_pixel 16 = .ok (.iload_n 2, 1) := by decide +kernel
theorem d_Md_pixel_17 : decode b_Md_pixel 17 = .ok (.bipush 15, 2) := by decide +kernel
theorem d_Md_pixel_19 : decode b_Md_pixel 19 = .ok (.invokestatic 75, 3) := by decide +kernel
theorem d_Md_pixel_22 : decode b_Md_pixel 22 = .ok (.ifCond .eq 5, 3) := by decide +kernel
theorem d_Md_pixel_25 : decode b_Md_pixel 25 = .ok (.iconst (-1), 1) := by decide +kernel
theorem d_Md_pixel_26 : decode b_Md_pixel 26 = .ok (.ireturn, 1) := by decide +kernel
theorem d_Md_pixel_27 : decode b_Md_pixel 27 = .ok (.aload_n 0, 1) := by decide +kernel
theorem d_Md_pixel_28 : decode b_Md_pixel 28 = .ok (.iload_n 1, 1) := by decide +kernel
theorem d_Md_pixel_29 : decode b_Md_pixel 29 = .ok (.iload_n 2, 1) := by decide +kernel
theorem d_Md_pixel_30 : decode b_Md_pixel 30 = .ok (.invokevirtual 205, 3) := by decide +kernel
theorem d_Md_pixel_33 : decode b_Md_pixel 33 = .ok (.ifCond .eq 17, 3) := by decide +kernel
theorem d_Md_pixel_36 : decode b_Md_pixel 36 = .ok (.aload_n 0, 1) := by decide +kernel
theorem d_Md_pixel_37 : decode b_Md_pixel 37 = .ok (.iconst 1, 1) := by decide +kernel
theorem d_Md_pixel_38 : decode b_Md_pixel 38 = .ok (.iload_n 1, 1) := by decide +kernel
theorem d_Md_pixel_39 : decode b_Md_pixel 39 = .ok (.iconst 4, 1) := by decide +kernel
theorem d_Md_pixel_40 : decode b_Md_pixel 40 = .ok (.idiv, 1) := by decide +kernel
theorem d_Md_pixel_41 : decode b_Md_pixel 41 = .ok (.iload_n 2, 1) := by decide +kernel
theorem d_Md_pixel_42 : decode b_Md_pixel 42 = .ok (.iconst 4, 1) := by decide +kernel
theorem d_Md_pixel_43 : decode b_Md_pixel 43 = .ok (.idiv, 1) := by decide +kernel
theorem d_Md_pixel_44 : decode b_Md_pixel 44 = .ok (.invokevirtual 208, 3) := by decide +kernel
theorem d_Md_pixel_47 : decode b_Md_pixel 47 = .ok (.goto 14, 3) := by decide +kernel
theorem d_Md_pixel_50 : decode b_Md_pixel 50 = .ok (.aload_n 0, 1) := by decide +kernel
theorem d_Md_pixel_51 : decode b_Md_pixel 51 = .ok (.iconst 0, 1) := by decide +kernel
theorem d_Md_pixel_52 : decode b_Md_pixel 52 = .ok (.iload_n 1, 1) := by decide +kernel
theorem d_Md_pixel_53 : decode b_Md_pixel 53 = .ok (.iconst 2, 1) := by decide +kernel
theorem d_Md_pixel_54 : decode b_Md_pixel 54 = .ok (.idiv, 1) := by decide +kernel
theorem d_Md_pixel_55 : decode b_Md_pixel 55 = .ok (.iload_n 2, 1) := by decide +kernel
theorem d_Md_pixel_56 : decode b_Md_pixel 56 = .ok (.iconst 2, 1) := by decide +kernel
theorem d_Md_pixel_57 : decode b_Md_pixel 57 = .ok (.idiv, 1) := by decide +kernel
theorem d_Md_pixel_58 : decode b_Md_pixel 58 = .ok (.invokevirtual 208, 3) := by decide +kernel
theorem d_Md_pixel_61 : decode b_Md_pixel 61 = .ok (.ireturn, 1) := by decide +kernel
theorem d_Md_coefficient_0 : decode b_Md_coefficient 0 = .ok (.aload_n 0, 1) := by decide +kernel
theorem d_Md_coefficient_1 : decode b_Md_coefficient 1 = .ok (.iload_n 1, 1) := by decide +kernel
theorem d_Md_coefficient_2 : decode b_Md_coefficient 2 = .ok (.iload_n 2, 1) := by decide +kernel
theorem d_Md_coefficient_3 : decode b_Md_coefficient 3 = .ok (.iload_n 3, 1) := by decide +kernel
theorem d_Md_coefficient_4 : decode b_Md_coefficient 4 = .ok (.invokevirtual 201, 3) := by decide +kernel
theorem d_Md_coefficient_7 : decode b_Md_coefficient 7 = .ok (.ifCond .eq 7, 3) := by decide +kernel
theorem d_Md_coefficient_10 : decode b_Md_coefficient 10 = .ok (.iconst 0, 1) := by decide +kernel
theorem d_Md_coefficient_11 : decode b_Md_coefficient 11 = .ok (.goto 19, 3) := by decide +kernel
theorem d_Md_coefficient_14 : decode b_Md_coefficient 14 = .ok (.aload_n 0, 1) := by decide +kernel
theorem d_Md_coefficient_15 : decode b_Md_coefficient 15 = .ok (.getfield 44, 3) := by decide +kernel
theorem d_Md_coefficient_18 : decode b_Md_coefficient 18 = .ok (.bipush 64, 2) := by decide +kernel
theorem d_Md_coefficient_20 : decode b_Md_coefficient 20 = .ok (.iload_n 1, 1) := by decide +kernel
theorem d_Md_coefficient_21 : decode b_Md_coefficient 21 = .ok (.imul, 1) := by decide +kernel
theorem d_Md_coefficient_22 : decode b_Md_coefficient 22 = .ok (.bipush 8, 2) := by decide +kernel
theorem d_Md_coefficient_24 : decode b_Md_coefficient 24 = .ok (.iload_n 3, 1) := by decide +kernel
theorem d_Md_coefficient_25 : decode b_Md_coefficient 25 = .ok (.imul, 1) := by decide +kernel
theorem d_Md_coefficient_26 : decode b_Md_coefficient 26 = .ok (.iadd, 1) := by decide +kernel
theorem d_Md_coefficient_27 : decode b_Md_coefficient 27 = .ok (.iload_n 2, 1) := by decide +kernel
theorem d_Md_coefficient_28 : decode b_Md_coefficient 28 = .ok (.iadd, 1) := by decide +kernel
theorem d_Md_coefficient_29 : decode b_Md_coefficient 29 = .ok (.iaload, 1) := by decide +kernel
theorem d_Md_coefficient_30 : decode b_Md_coefficient 30 = .ok (.ireturn, 1) := by decide +kernel
theorem d_Md_shapes_0 : decode b_Md_shapes 0 = .ok (.aload_n 0, 1) := by decide +kernel
theorem d_Md_shapes_1 : decode b_Md_shapes 1 = .ok (.getfield 180, 3) := by decide +kernel
theorem d_Md_shapes_4 : decode b_Md_shapes 4 = .ok (.ifCond .eq 10, 3) := by decide +kernel
theorem d_Md_shapes_7 : decode b_Md_shapes 7 = .ok (.aload_n 0, 1) := by decide +kernel
theorem d_Md_shapes_8 : decode b_Md_shapes 8 = .ok (.getfield 183, 3) := by decide +kernel
theorem d_Md_shapes_11 : decode b_Md_shapes 11 = .ok (.goto 4, 3) := by decide +kernel
theorem d_Md_shapes_14 : decode b_Md_shapes 14 = .ok (.iconst (-1), 1) := by decide +kernel
theorem d_Md_shapes_15 : decode b_Md_shapes 15 = .ok (.ireturn, 1) := by decide +kernel
theorem d_Md_glyph_0 : decode b_Md_glyph 0 = .ok (.aload_n 0, 1) := by decide +kernel
theorem d_Md_glyph_1 : decode b_Md_glyph 1 = .ok (.getfield 180, 3) := by decide +kernel
theorem d_Md_glyph_4 : decode b_Md_glyph 4 = .ok (.ifCond .eq 16, 3) := by decide +kernel
theorem d_Md_glyph_7 : decode b_Md_glyph 7 = .ok (.iload_n 1, 1) := by decide +kernel
theorem d_Md_glyph_8 : decode b_Md_glyph 8 = .ok (.aload_n 0, 1) := by decide +kernel
theorem d_Md_glyph_9 : decode b_Md_glyph 9 = .ok (.getfield 183, 3) := by decide +kernel
theorem d_Md_glyph_12 : decode b_Md_glyph 12 = .ok (.iconst 1, 1) := by decide +kernel
theorem d_Md_glyph_13 : decode b_Md_glyph 13 = .ok (.isub, 1) := by decide +kernel
theorem d_Md_glyph_14 : decode b_Md_glyph 14 = .ok (.invokestatic 75, 3) := by decide +kernel
theorem d_Md_glyph_17 : decode b_Md_glyph 17 = .ok (.ifCond .eq 7, 3) := by decide +kernel
theorem d_Md_glyph_20 : decode b_Md_glyph 20 = .ok (.lconst 0, 1) := by decide +kernel
theorem d_Md_glyph_21 : decode b_Md_glyph 21 = .ok (.goto 9, 3) := by decide +kernel
theorem d_Md_glyph_24 : decode b_Md_glyph 24 = .ok (.aload_n 0, 1) := by decide +kernel
theorem d_Md_glyph_25 : decode b_Md_glyph 25 = .ok (.getfield 35, 3) := by decide +kernel
theorem d_Md_glyph_28 : decode b_Md_glyph 28 = .ok (.iload_n 1, 1) := by decide +kernel
theorem d_Md_glyph_29 : decode b_Md_glyph 29 = .ok (.laload, 1) := by decide +kernel
theorem d_Md_glyph_30 : decode b_Md_glyph 30 = .ok (.lreturn, 1) := by decide +kernel
theorem d_Md_placings_0 : decode b_Md_placings 0 = .ok (.aload_n 0, 1) := by decide +kernel
theorem d_Md_placings_1 : decode b_Md_placings 1 = .ok (.getfield 180, 3) := by decide +kernel
theorem d_Md_placings_4 : decode b_Md_placings 4 = .ok (.ifCond .eq 10, 3) := by decide +kernel
theorem d_Md_placings_7 : decode b_Md_placings 7 = .ok (.aload_n 0, 1) := by decide +kernel
theorem d_Md_placings_8 : decode b_Md_placings 8 = .ok (.getfield 186, 3) := by decide +kernel
theorem d_Md_placings_11 : decode b_Md_placings 11 = .ok (.goto 4, 3) := by decide +kernel
theorem d_Md_placings_14 : decode b_Md_placings 14 = .ok (.iconst (-1), 1) := by decide +kernel
theorem d_Md_placings_15 : decode b_Md_placings 15 = .ok (.ireturn, 1) := by decide +kernel
theorem d_Cr_init_0 : decode b_Cr_init 0 = .ok (.aload_n 0, 1) := by decide +kernel
theorem d_Cr_init_1 : decode b_Cr_init 1 = .ok (.invokespecial 1, 3) := by decide +kernel
theorem d_Cr_init_4 : decode b_Cr_init 4 = .ok (.aload_n 0, 1) := by decide +kernel
theorem d_Cr_init_5 : decode b_Cr_init 5 = .ok (.iconst 0, 1) := by decide +kernel
theorem d_Cr_init_6 : decode b_Cr_init 6 = .ok (.newarray .int, 2) := by decide +kernel
theorem d_Cr_init_8 : decode b_Cr_init 8 = .ok (.putfield 7, 3) := by decide +kernel
theorem d_Cr_init_11 : decode b_Cr_init 11 = .ok (.aload_n 0, 1) := by decide +kernel
theorem d_Cr_init_12 : decode b_Cr_init 12 = .ok (.iconst 0, 1) := by decide +kernel
theorem d_Cr_init_13 : decode b_Cr_init 13 = .ok (.putfield 13, 3) := by decide +kernel
theorem d_Cr_init_16 : decode b_Cr_init 16 = .ok (.aload_n 0, 1) := by decide +kernel
theorem d_Cr_init_17 : decode b_Cr_init 17 = .ok (.iconst 0, 1) := by decide +kernel
theorem d_Cr_init_18 : decode b_Cr_init 18 = .ok (.putfield 17, 3) := by decide +kernel
theorem d_Cr_init_21 : decode b_Cr_init 21 = .ok (.aload_n 0, 1) := by decide +kernel
theorem d_Cr_init_22 : decode b_Cr_init 22 = .ok (.iconst 0, 1) := by decide +kernel
theorem d_Cr_init_23 : decode b_Cr_init 23 = .ok (.putfield 20, 3) := by decide +kernel
theorem d_Cr_init_26 : decode b_Cr_init 26 = .ok (.aload_n 0, 1) := by decide +kernel
theorem d_Cr_init_27 : decode b_Cr_init 27 = .ok (.iconst 0, 1) := by decide +kernel
theorem d_Cr_init_28 : decode b_Cr_init 28 = .ok (.putfield 23, 3) := by decide +kernel
theorem d_Cr_init_31 : decode b_Cr_init 31 = .ok (.return_, 1) := by decide +kernel
theorem d_Cr_begin_0 : decode b_Cr_begin 0 = .ok (.aload_n 0, 1) := by decide +kernel
theorem d_Cr_begin_1 : decode b_Cr_begin 1 = .ok (.invokevirtual 26, 3) := by decide +kernel
theorem d_Cr_begin_4 : decode b_Cr_begin 4 = .ok (.aload_n 0, 1) := by decide +kernel
theorem d_Cr_begin_5 : decode b_Cr_begin 5 = .ok (.aload_n 1, 1) := by decide +kernel
theorem d_Cr_begin_6 : decode b_Cr_begin 6 = .ok (.putfield 7, 3) := by decide +kernel
theorem d_Cr_begin_9 : decode b_Cr_begin 9 = .ok (.aload_n 0, 1) := by decide +kernel
theorem d_Cr_begin_10 : decode b_Cr_begin 10 = .ok (.iload_n 2, 1) := by decide +kernel
theorem d_Cr_begin_11 : decode b_Cr_begin 11 = .ok (.putfield 13, 3) := by decide +kernel
theorem d_Cr_begin_14 : decode b_Cr_begin 14 = .ok (.aload_n 0, 1) := by decide +kernel
theorem d_Cr_begin_15 : decode b_Cr_begin 15 = .ok (.iload_n 3, 1) := by decide +kernel
theorem d_Cr_begin_16 : decode b_Cr_begin 16 = .ok (.aload_n 1, 1) := by decide +kernel
theorem d_Cr_begin_17 : decode b_Cr_begin 17 = .ok (.arraylength, 1) := by decide +kernel
theorem d_Cr_begin_18 : decode b_Cr_begin 18 = .ok (.invokestatic 29, 3) := by decide +kernel
theorem d_Cr_begin_21 : decode b_Cr_begin 21 = .ok (.putfield 17, 3) := by decide +kernel
theorem d_Cr_begin_24 : decode b_Cr_begin 24 = .ok (.aload_n 0, 1) := by decide +kernel
theorem d_Cr_begin_25 : decode b_Cr_begin 25 = .ok (.iconst 0, 1) := by decide +kernel
theorem d_Cr_begin_26 : decode b_Cr_begin 26 = .ok (.putfield 20, 3) := by decide +kernel
theorem d_Cr_begin_29 : decode b_Cr_begin 29 = .ok (.aload_n 0, 1) := by decide +kernel
theorem d_Cr_begin_30 : decode b_Cr_begin 30 = .ok (.iconst 0, 1) := by decide +kernel
theorem d_Cr_begin_31 : decode b_Cr_begin 31 = .ok (.putfield 23, 3) := by decide +kernel
theorem d_Cr_begin_34 : decode b_Cr_begin 34 = .ok (.iconst 0, 1) := by decide +kernel
theorem d_Cr_begin_35 : decode b_Cr_begin 35 = .ok (.istore 4, 2) := by decide +kernel
theorem d_Cr_begin_37 : decode b_Cr_begin 37 = .ok (.iload 4, 2) := by decide +kernel
theorem d_Cr_begin_39 : decode b_Cr_begin 39 = .ok (.bipush 16, 2) := by decide +kernel
theorem d_Cr_begin_41 : decode b_Cr_begin 41 = .ok (.if_icmp .ge 13, 3) := by decide +kernel
theorem d_Cr_begin_44 : decode b_Cr_begin 44 = .ok (.aload_n 0, 1) := by decide +kernel
theorem d_Cr_begin_45 : decode b_Cr_begin 45 = .ok (.invokevirtual 35, 3) := by decide +kernel
theorem d_Cr_begin_48 : decode b_Cr_begin 48 = .ok (.iinc 4 1, 3) := by decide +kernel
theorem d_Cr_begin_51 : decode b_Cr_begin 51 = .ok (.goto (-14), 3) := by decide +kernel
theorem d_Cr_begin_54 : decode b_Cr_begin 54 = .ok (.return_, 1) := by decide +kernel
theorem d_Cr_choose_0 : decode b_Cr_choose 0 = .ok (.aload_n 0, 1) := by decide +kernel
theorem d_Cr_choose_1 : decode b_Cr_choose 1 = .ok (.getfield 23, 3) := by decide +kernel
theorem d_Cr_choose_4 : decode b_Cr_choose 4 = .ok (.iload_n 1, 1) := by decide +kernel
theorem d_Cr_choose_5 : decode b_Cr_choose 5 = .ok (.if_icmp .ge 5, 3) := by decide +kernel
theorem d_Cr_choose_8 : decode b_Cr_choose 8 = .ok (.iconst 0, 1) := by decide +kernel
theorem d_Cr_choose_9 : decode b_Cr_choose 9 = .ok (.ireturn, 1) := by decide +kernel
theorem d_Cr_choose_10 : decode b_Cr_choose 10 = .ok (.aload_n 0, 1) := by decide +kernel
theorem d_Cr_choose_11 : decode b_Cr_choose 11 = .ok (.dup, 1) := by decide +kernel
theorem d_Cr_choose_12 : decode b_Cr_choose 12 = .ok (.getfield 23, 3) := by decide +kernel
theorem d_Cr_choose_15 : decode b_Cr_choose 15 = .ok (.iload_n 1, 1) := by decide +kernel
theorem d_Cr_choose_16 : decode b_Cr_choose 16 = .ok (.isub, 1) := by decide +kernel
theorem d_Cr_choose_17 : decode b_Cr_choose 17 = .ok (.putfield 23, 3) := by decide +kernel
theorem d_Cr_choose_20 : decode b_Cr_choose 20 = .ok (.iconst 1, 1) := by decide +kernel
theorem d_Cr_choose_21 : decode b_Cr_choose 21 = .ok (.ireturn, 1) := by decide +kernel
theorem d_Cr_shift_0 : decode b_Cr_shift 0 = .ok (.aload_n 0, 1) := by decide +kernel
theorem d_Cr_shift_1 : decode b_Cr_shift 1 = .ok (.dup, 1) := by decide +kernel
theorem d_Cr_shift_2 : decode b_Cr_shift 2 = .ok (.getfield 23, 3) := by decide +kernel
theorem d_Cr_shift_5 : decode b_Cr_shift 5 = .ok (.iconst 2, 1) := by decide +kernel
theorem d_Cr_shift_6 : decode b_Cr_shift 6 = .ok (.imul, 1) := by decide +kernel
theorem d_Cr_shift_7 : decode b_Cr_shift 7 = .ok (.putfield 23, 3) := by decide +kernel
theorem d_Cr_shift_10 : decode b_Cr_shift 10 = .ok (.aload_n 0, 1) := by decide +kernel
theorem d_Cr_shift_11 : decode b_Cr_shift 11 = .ok (.getfield 13, 3) := by decide +kernel
theorem d_Cr_shift_14 : decode b_Cr_shift 14 = .ok (.aload_n 0, 1) := by decide +kernel
theorem d_Cr_shift_15 : decode b_Cr_shift 15 = .ok (.getfield 17, 3) := by decide +kernel
theorem d_Cr_shift_18 : decode b_Cr_shift 18 = .ok (.if_icmp .ge 65, 3) := by decide +kernel
theorem d_Cr_shift_21 : decode b_Cr_shift 21 = .ok (.aload_n 0, 1) := by decide +kernel
theorem d_Cr_shift_22 : decode b_Cr_shift 22 = .ok (.dup, 1) := by decide +kernel
theorem d_Cr_shift_23 : decode b_Cr_shift 23 = .ok (.getfield 23, 3) := by decide +kernel
theorem d_Cr_shift_26 : decode b_Cr_shift 26 = .ok (.aload_n 0, 1) := by decide +kernel
theorem d_Cr_shift_27 : decode b_Cr_shift 27 = .ok (.getfield 7, 3) := by decide +kernel
theorem d_Cr_shift_30 : decode b_Cr_shift 30 = .ok (.aload_n 0, 1) := by decide +kernel
theorem d_Cr_shift_31 : decode b_Cr_shift 31 = .ok (.getfield 13, 3) := by decide +kernel
theorem d_Cr_shift_34 : decode b_Cr_shift 34 = .ok (.iaload, 1) := by decide +kernel
theorem d_Cr_shift_35 : decode b_Cr_shift 35 = .ok (.bipush 7, 2) := by decide +kernel
theorem d_Cr_shift_37 : decode b_Cr_shift 37 = .ok (.aload_n 0, 1) := by decide +kernel
theorem d_Cr_shift_38 : decode b_Cr_shift 38 = .ok (.getfield 20, 3) := by decide +kernel
theorem d_Cr_shift_41 : decode b_Cr_shift 41 = .ok (.isub, 1) := by decide +kernel
theorem d_Cr_shift_42 : decode b_Cr_shift 42 = .ok (.ishr, 1) := by decide +kernel
theorem d_Cr_shift_43 : decode b_Cr_shift 43 = .ok (.iconst 1, 1) := by decide +kernel
theorem d_Cr_shift_44 : decode b_Cr_shift 44 = .ok (.iand, 1) := by decide +kernel
theorem d_Cr_shift_45 : decode b_Cr_shift 45 = .ok (.iadd, 1) := by decide +kernel
theorem d_Cr_shift_46 : decode b_Cr_shift 46 = .ok (.putfield 23, 3) := by decide +kernel
theorem d_Cr_shift_49 : decode b_Cr_shift 49 = .ok (.aload_n 0, 1) := by decide +kernel
theorem d_Cr_shift_50 : decode b_Cr_shift 50 = .ok (.aload_n 0, 1) := by decide +kernel
theorem d_Cr_shift_51 : decode b_Cr_shift 51 = .ok (.getfield 20, 3) := by decide +kernel
theorem d_Cr_shift_54 : decode b_Cr_shift 54 = .ok (.iconst 1, 1) := by decide +kernel
theorem d_Cr_shift_55 : decode b_Cr_shift 55 = .ok (.iadd, 1) := by decide +kernel
theorem d_Cr_shift_56 : decode b_Cr_shift 56 = .ok (.bipush 8, 2) := by decide +kernel
theorem d_Cr_shift_58 : decode b_Cr_shift 58 = .ok (.irem, 1) := by decide +kernel
theorem d_Cr_shift_59 : decode b_Cr_shift 59 = .ok (.putfield 20, 3) := by decide +kernel
theorem d_Cr_shift_62 : decode b_Cr_shift 62 = .ok (.aload_n 0, 1) := by decide +kernel
theorem d_Cr_shift_63 : decode b_Cr_shift 63 = .ok (.dup, 1) := by decide +kernel
theorem d_Cr_shift_64 : decode b_Cr_shift 64 = .ok (.getfield 13, 3) := by decide +kernel
theorem d_Cr_shift_67 : decode b_Cr_shift 67 = .ok (.aload_n 0, 1) := by decide +kernel
theorem d_Cr_shift_68 : decode b_Cr_shift 68 = .ok (.getfield 20, 3) := by decide +kernel
theorem d_Cr_shift_71 : decode b_Cr_shift 71 = .ok (.ifCond .ne 7, 3) := by decide +kernel
theorem d_Cr_shift_74 : decode b_Cr_shift 74 = .ok (.iconst 1, 1) := by decide +kernel
theorem d_Cr_shift_75 : decode b_Cr_shift 75 = .ok (.goto 4, 3) := by decide +kernel
theorem d_Cr_shift_78 : decode b_Cr_shift 78 = .ok (.iconst 0, 1) := by decide +kernel
theorem d_Cr_shift_79 : decode b_Cr_shift 79 = .ok (.iadd, 1) := by decide +kernel
theorem d_Cr_shift_80 : decode b_Cr_shift 80 = .ok (.putfield 13, 3) := by decide +kernel
theorem d_Cr_shift_83 : decode b_Cr_shift 83 = .ok (.return_, 1) := by decide +kernel
end
section
theorem d_Cw_init_0 : decode b_Cw_init 0 = .ok (.aload_n 0, 1) := by decide +kernel
theorem d_Cw_init_1 : decode b_Cw_init 1 = .ok (.invokespecial 1, 3) := by decide +kernel
theorem d_Cw_init_4 : decode b_Cw_init 4 = .ok (.aload_n 0, 1) := by decide +kernel
theorem d_Cw_init_5 : decode b_Cw_init 5 = .ok (.iconst 0, 1) := by decide +kernel
theorem d_Cw_init_6 : decode b_Cw_init 6 = .ok (.newarray .int, 2) := by decide +kernel
theorem d_Cw_init_8 : decode b_Cw_init 8 = .ok (.putfield 7, 3) := by decide +kernel
theorem d_Cw_init_11 : decode b_Cw_init 11 = .ok (.aload_n 0, 1) := by decide +kernel
theorem d_Cw_init_12 : decode b_Cw_init 12 = .ok (.iconst 0, 1) := by decide +kernel
theorem d_Cw_init_13 : decode b_Cw_init 13 = .ok (.putfield 13, 3) := by decide +kernel
theorem d_Cw_init_16 : decode b_Cw_init 16 = .ok (.aload_n 0, 1) := by decide +kernel
theorem d_Cw_init_17 : decode b_Cw_init 17 = .ok (.iconst 0, 1) := by decide +kernel
theorem d_Cw_init_18 : decode b_Cw_init 18 = .ok (.putfield 17, 3) := by decide +kernel
theorem d_Cw_init_21 : decode b_Cw_init 21 = .ok (.return_, 1) := by decide +kernel
theorem d_Cw_begin_0 : decode b_Cw_begin 0 = .ok (.aload_n 0, 1) := by decide +kernel
theorem d_Cw_begin_1 : decode b_Cw_begin 1 = .ok (.invokevirtual 20, 3) := by decide +kernel
theorem d_Cw_begin_4 : decode b_Cw_begin 4 = .ok (.aload_n 0, 1) := by decide +kernel
theorem d_Cw_begin_5 : decode b_Cw_begin 5 = .ok (.aload_n 1, 1) := by decide +kernel
theorem d_Cw_begin_6 : decode b_Cw_begin 6 = .ok (.putfield 7, 3) := by decide +kernel
theorem d_Cw_begin_9 : decode b_Cw_begin 9 = .ok (.aload_n 0, 1) := by decide +kernel
theorem d_Cw_begin_10 : decode b_Cw_begin 10 = .ok (.iload_n 2, 1) := by decide +kernel
theorem d_Cw_begin_11 : decode b_Cw_begin 11 = .ok (.putfield 13, 3) := by decide +kernel
theorem d_Cw_begin_14 : decode b_Cw_begin 14 = .ok (.aload_n 0, 1) := by decide +kernel
theorem d_Cw_begin_15 : decode b_Cw_begin 15 = .ok (.iconst 0, 1) := by decide +kernel
theorem d_Cw_begin_16 : decode b_Cw_begin 16 = .ok (.putfield 17, 3) := by decide +kernel
theorem d_Cw_begin_19 : decode b_Cw_begin 19 = .ok (.return_, 1) := by decide +kernel
theorem d_Cw_choose_0 : decode b_Cw_choose 0 = .ok (.aload_n 0, 1) := by decide +kernel
theorem d_Cw_choose_1 : decode b_Cw_choose 1 = .ok (.getfield 13, 3) := by decide +kernel
theorem d_Cw_choose_4 : decode b_Cw_choose 4 = .ok (.aload_n 0, 1) := by decide +kernel
theorem d_Cw_choose_5 : decode b_Cw_choose 5 = .ok (.getfield 17, 3) := by decide +kernel
theorem d_Cw_choose_8 : decode b_Cw_choose 8 = .ok (.bipush 8, 2) := by decide +kernel
theorem d_Cw_choose_10 : decode b_Cw_choose 10 = .ok (.idiv, 1) := by decide +kernel
theorem d_Cw_choose_11 : decode b_Cw_choose 11 = .ok (.iadd, 1) := by decide +kernel
theorem d_Cw_choose_12 : decode b_Cw_choose 12 = .ok (.iconst 2, 1) := by decide +kernel
theorem d_Cw_choose_13 : decode b_Cw_choose 13 = .ok (.iadd, 1) := by decide +kernel
theorem d_Cw_choose_14 : decode b_Cw_choose 14 = .ok (.istore_n 3, 1) := by decide +kernel
theorem d_Cw_choose_15 : decode b_Cw_choose 15 = .ok (.iload_n 2, 1) := by decide +kernel
theorem d_Cw_choose_16 : decode b_Cw_choose 16 = .ok (.iconst 1, 1) := by decide +kernel
theorem d_Cw_choose_17 : decode b_Cw_choose 17 = .ok (.if_icmp .ne 81, 3) := by decide +kernel
theorem d_Cw_choose_20 : decode b_Cw_choose 20 = .ok (.iload_n 3, 1) := by decide +kernel
theorem d_Cw_choose_21 : decode b_Cw_choose 21 = .ok (.aload_n 0, 1) := by decide +kernel
theorem d_Cw_choose_22 : decode b_Cw_choose 22 = .ok (.getfield 7, 3) := by decide +kernel
theorem d_Cw_choose_25 : decode b_Cw_choose 25 = .ok (.arraylength, 1) := by decide +kernel
theorem d_Cw_choose_26 : decode b_Cw_choose 26 = .ok (.if_icmp .ge 72, 3) := by decide +kernel
theorem d_Cw_choose_29 : decode b_Cw_choose 29 = .ok (.iload_n 1, 1) := by decide +kernel
theorem d_Cw_choose_30 : decode b_Cw_choose 30 = .ok (.bipush 8, 2) := by decide +kernel
theorem d_Cw_choose_32 : decode b_Cw_choose 32 = .ok (.aload_n 0, 1) := by decide +kernel
theorem d_Cw_choose_33 : decode b_Cw_choose 33 = .ok (.getfield 17, 3) := by decide +kernel
theorem d_Cw_choose_36 : decode b_Cw_choose 36 = .ok (.bipush 8, 2) := by decide +kernel
theorem d_Cw_choose_38 : decode b_Cw_choose 38 = .ok (.irem, 1) := by decide +kernel
theorem d_Cw_choose_39 : decode b_Cw_choose 39 = .ok (.isub, 1) := by decide +kernel
theorem d_Cw_choose_40 : decode b_Cw_choose 40 = .ok (.ishl, 1) := by decide +kernel
theorem d_Cw_choose_41 : decode b_Cw_choose 41 = .ok (.istore 4, 2) := by decide +kernel
theorem d_Cw_choose_43 : decode b_Cw_choose 43 = .ok (.iload_n 3, 1) := by decide +kernel
theorem d_Cw_choose_44 : decode b_Cw_choose 44 = .ok (.istore 5, 2) := by decide +kernel
theorem d_Cw_choose_46 : decode b_Cw_choose 46 = .ok (.iload 5, 2) := by decide +kernel
theorem d_Cw_choose_48 : decode b_Cw_choose 48 = .ok (.aload_n 0, 1) := by decide +kernel
theorem d_Cw_choose_49 : decode b_Cw_choose 49 = .ok (.getfield 13, 3) := by decide +kernel
theorem d_Cw_choose_52 : decode b_Cw_choose 52 = .ok (.if_icmp .lt 46, 3) := by decide +kernel
theorem d_Cw_choose_55 : decode b_Cw_choose 55 = .ok (.iload 4, 2) := by decide +kernel
theorem d_Cw_choose_57 : decode b_Cw_choose 57 = .ok (.ifCond .le 41, 3) := by decide +kernel
theorem d_Cw_choose_60 : decode b_Cw_choose 60 = .ok (.iload 4, 2) := by decide +kernel
theorem d_Cw_choose_62 : decode b_Cw_choose 62 = .ok (.aload_n 0, 1) := by decide +kernel
theorem d_Cw_choose_63 : decode b_Cw_choose 63 = .ok (.getfield 7, 3) := by decide +kernel
theorem d_Cw_choose_66 : decode b_Cw_choose 66 = .ok (.iload 5, 2) := by decide +kernel
theorem d_Cw_choose_68 : decode b_Cw_choose 68 = .ok (.iaload, 1) := by decide +kernel
theorem d_Cw_choose_69 : decode b_Cw_choose 69 = .ok (.iadd, 1) := by decide +kernel
theorem d_Cw_choose_70 : decode b_Cw_choose 70 = .ok (.istore 4, 2) := by decide +kernel
theorem d_Cw_choose_72 : decode b_Cw_choose 72 = .ok (.aload_n 0, 1) := by decide +kernel
theorem d_Cw_choose_73 : decode b_Cw_choose 73 = .ok (.getfield 7, 3) := by decide +kernel
theorem d_Cw_choose_76 : decode b_Cw_choose 76 = .ok (.iload 5, 2) := by decide +kernel
theorem d_Cw_choose_78 : decode b_Cw_choose 78 = .ok (.iload 4, 2) := by decide +kernel
theorem d_Cw_choose_80 : decode b_Cw_choose 80 = .ok (.sipush 255, 3) := by decide +kernel
theorem d_Cw_choose_83 : decode b_Cw_choose 83 = .ok (.iand, 1) := by decide +kernel
theorem d_Cw_choose_84 : decode b_Cw_choose 84 = .ok (.iastore, 1) := by decide +kernel
theorem d_Cw_choose_85 : decode b_Cw_choose 85 = .ok (.iload 4, 2) := by decide +kernel
theorem d_Cw_choose_87 : decode b_Cw_choose 87 = .ok (.bipush 8, 2) := by decide +kernel
theorem d_Cw_choose_89 : decode b_Cw_choose 89 = .ok (.ishr, 1) := by decide +kernel
theorem d_Cw_choose_90 : decode b_Cw_choose 90 = .ok (.istore 4, 2) := by decide +kernel
theorem d_Cw_choose_92 : decode b_Cw_choose 92 = .ok (.iinc 5 (-1), 3) := by decide +kernel
theorem d_Cw_choose_95 : decode b_Cw_choose 95 = .ok (.goto (-49), 3) := by decide +kernel
theorem d_Cw_choose_98 : decode b_Cw_choose 98 = .ok (.iload_n 2, 1) := by decide +kernel
theorem d_Cw_choose_99 : decode b_Cw_choose 99 = .ok (.ireturn, 1) := by decide +kernel
theorem d_Cw_shift_0 : decode b_Cw_shift 0 = .ok (.aload_n 0, 1) := by decide +kernel
theorem d_Cw_shift_1 : decode b_Cw_shift 1 = .ok (.dup, 1) := by decide +kernel
theorem d_Cw_shift_2 : decode b_Cw_shift 2 = .ok (.getfield 17, 3) := by decide +kernel
theorem d_Cw_shift_5 : decode b_Cw_shift 5 = .ok (.iconst 1, 1) := by decide +kernel
theorem d_Cw_shift_6 : decode b_Cw_shift 6 = .ok (.iadd, 1) := by decide +kernel
theorem d_Cw_shift_7 : decode b_Cw_shift 7 = .ok (.putfield 17, 3) := by decide +kernel
theorem d_Cw_shift_10 : decode b_Cw_shift 10 = .ok (.return_, 1) := by decide +kernel
theorem d_Cw_size_0 : decode b_Cw_size 0 = .ok (.bipush 16, 2) := by decide +kernel
theorem d_Cw_size_2 : decode b_Cw_size 2 = .ok (.aload_n 0, 1) := by decide +kernel
theorem d_Cw_size_3 : decode b_Cw_size 3 = .ok (.getfield 17, 3) := by decide +kernel
theorem d_Cw_size_6 : decode b_Cw_size 6 = .ok (.iadd, 1) := by decide +kernel
theorem d_Cw_size_7 : decode b_Cw_size 7 = .ok (.bipush 7, 2) := by decide +kernel
theorem d_Cw_size_9 : decode b_Cw_size 9 = .ok (.iadd, 1) := by decide +kernel
theorem d_Cw_size_10 : decode b_Cw_size 10 = .ok (.bipush 8, 2) := by decide +kernel
theorem d_Cw_size_12 : decode b_Cw_size 12 = .ok (.idiv, 1) := by decide +kernel
theorem d_Cw_size_13 : decode b_Cw_size 13 = .ok (.ireturn, 1) := by decide +kernel
theorem d_Cd_init_0 : decode b_Cd_init 0 = .ok (.aload_n 0, 1) := by decide +kernel
theorem d_Cd_init_1 : decode b_Cd_init 1 = .ok (.invokespecial 1, 3) := by decide +kernel
theorem d_Cd_init_4 : decode b_Cd_init 4 = .ok (.aload_n 0, 1) := by decide +kernel
theorem d_Cd_init_5 : decode b_Cd_init 5 = .ok (.bipush 48, 2) := by decide +kernel
theorem d_Cd_init_7 : decode b_Cd_init 7 = .ok (.newarray .int, 2) := by decide +kernel
theorem d_Cd_init_9 : decode b_Cd_init 9 = .ok (.putfield 9, 3) := by decide +kernel
theorem d_Cd_init_12 : decode b_Cd_init 12 = .ok (.aload_n 0, 1) := by decide +kernel
theorem d_Cd_init_13 : decode b_Cd_init 13 = .ok (.bipush 48, 2) := by decide +kernel
theorem d_Cd_init_15 : decode b_Cd_init 15 = .ok (.newarray .int, 2) := by decide +kernel
theorem d_Cd_init_17 : decode b_Cd_init 17 = .ok (.putfield 13, 3) := by decide +kernel
theorem d_Cd_init_20 : decode b_Cd_init 20 = .ok (.aload_n 0, 1) := by decide +kernel
theorem d_Cd_init_21 : decode b_Cd_init 21 = .ok (.ldc 16, 2) := by decide +kernel
theorem d_Cd_init_23 : decode b_Cd_init 23 = .ok (.putfield 17, 3) := by decide +kernel
theorem d_Cd_init_26 : decode b_Cd_init 26 = .ok (.aload_n 0, 1) := by decide +kernel
theorem d_Cd_init_27 : decode b_Cd_init 27 = .ok (.invokevirtual 21, 3) := by decide +kernel
theorem d_Cd_init_30 : decode b_Cd_init 30 = .ok (.return_, 1) := by decide +kernel
theorem d_Cd_restart_0 : decode b_Cd_restart 0 = .ok (.aload_n 0, 1) := by decide +kernel
theorem d_Cd_restart_1 : decode b_Cd_restart 1 = .ok (.getfield 9, 3) := by decide +kernel
theorem d_Cd_restart_4 : decode b_Cd_restart 4 = .ok (.iconst 1, 1) := by decide +kernel
theorem d_Cd_restart_5 : decode b_Cd_restart 5 = .ok (.invokestatic 24, 3) := by decide +kernel
theorem d_Cd_restart_8 : decode b_Cd_restart 8 = .ok (.aload_n 0, 1) := by decide +kernel
theorem d_Cd_restart_9 : decode b_Cd_restart 9 = .ok (.getfield 13, 3) := by decide +kernel
theorem d_Cd_restart_12 : decode b_Cd_restart 12 = .ok (.iconst 1, 1) := by decide +kernel
theorem d_Cd_restart_13 : decode b_Cd_restart 13 = .ok (.invokestatic 24, 3) := by decide +kernel
theorem d_Cd_restart_16 : decode b_Cd_restart 16 = .ok (.aload_n 0, 1) := by decide +kernel
theorem d_Cd_restart_17 : decode b_Cd_restart 17 = .ok (.ldc 16, 2) := by decide +kernel
theorem d_Cd_restart_19 : decode b_Cd_restart 19 = .ok (.putfield 17, 3) := by decide +kernel
theorem d_Cd_restart_22 : decode b_Cd_restart 22 = .ok (.return_, 1) := by decide +kernel
theorem d_Cd_code_0 : decode b_Cd_code 0 = .ok (.aload_n 0, 1) := by decide +kernel
theorem d_Cd_code_1 : decode b_Cd_code 1 = .ok (.getfield 17, 3) := by decide +kernel
theorem d_Cd_code_4 : decode b_Cd_code 4 = .ok (.aload_n 0, 1) := by decide +kernel
theorem d_Cd_code_5 : decode b_Cd_code 5 = .ok (.getfield 9, 3) := by decide +kernel
theorem d_Cd_code_8 : decode b_Cd_code 8 = .ok (.iload_n 1, 1) := by decide +kernel
theorem d_Cd_code_9 : decode b_Cd_code 9 = .ok (.iaload, 1) := by decide +kernel
theorem d_Cd_code_10 : decode b_Cd_code 10 = .ok (.imul, 1) := by decide +kernel
theorem d_Cd_code_11 : decode b_Cd_code 11 = .ok (.aload_n 0, 1) := by decide +kernel
theorem d_Cd_code_12 : decode b_Cd_code 12 = .ok (.getfield 9, 3) := by decide +kernel
theorem d_Cd_code_15 : decode b_Cd_code 15 = .ok (.iload_n 1, 1) := by decide +kernel
theorem d_Cd_code_16 : decode b_Cd_code 16 = .ok (.iaload, 1) := by decide +kernel
theorem d_Cd_code_17 : decode b_Cd_code 17 = .ok (.aload_n 0, 1) := by decide +kernel
theorem d_Cd_code_18 : decode b_Cd_code 18 = .ok (.getfield 13, 3) := by decide +kernel
theorem d_Cd_code_21 : decode b_Cd_code 21 = .ok (.iload_n 1, 1) := by decide +kernel
theorem d_Cd_code_22 : decode b_Cd_code 22 = .ok (.iaload, 1) := by decide +kernel
theorem d_Cd_code_23 : decode b_Cd_code 23 = .ok (.iadd, 1) := by decide +kernel
theorem d_Cd_code_24 : decode b_Cd_code 24 = .ok (.idiv, 1) := by decide +kernel
theorem d_Cd_code_25 : decode b_Cd_code 25 = .ok (.istore_n 3, 1) := by decide +kernel
theorem d_Cd_code_26 : decode b_Cd_code 26 = .ok (.aload_n 0, 1) := by decide +kernel
theorem d_Cd_code_27 : decode b_Cd_code 27 = .ok (.iload_n 3, 1) := by decide +kernel
theorem d_Cd_code_28 : decode b_Cd_code 28 = .ok (.iload_n 2, 1) := by decide +kernel
theorem d_Cd_code_29 : decode b_Cd_code 29 = .ok (.invokevirtual 30, 3) := by decide +kernel
theorem d_Cd_code_32 : decode b_Cd_code 32 = .ok (.istore 4, 2) := by decide +kernel
theorem d_Cd_code_34 : decode b_Cd_code 34 = .ok (.aload_n 0, 1) := by decide +kernel
theorem d_Cd_code_35 : decode b_Cd_code 35 = .ok (.iload 4, 2) := by decide +kernel
theorem d_Cd_code_37 : decode b_Cd_code 37 = .ok (.ifCond .ne 7, 3) := by decide +kernel
theorem d_Cd_code_40 : decode b_Cd_code 40 = .ok (.iload_n 3, 1) := by decide +kernel
theorem d_Cd_code_41 : decode b_Cd_code 41 = .ok (.goto 9, 3) := by decide +kernel
theorem d_Cd_code_44 : decode b_Cd_code 44 = .ok (.aload_n 0, 1) := by decide +kernel
theorem d_Cd_code_45 : decode b_Cd_code 45 = .ok (.getfield 17, 3) := by decide +kernel
theorem d_Cd_code_48 : decode b_Cd_code 48 = .ok (.iload_n 3, 1) := by decide +kernel
theorem d_Cd_code_49 : decode b_Cd_code 49 = .ok (.isub, 1) := by decide +kernel
theorem d_Cd_code_50 : decode b_Cd_code 50 = .ok (.putfield 17, 3) := by decide +kernel
theorem d_Cd_code_53 : decode b_Cd_code 53 = .ok (.aload_n 0, 1) := by decide +kernel
theorem d_Cd_code_54 : decode b_Cd_code 54 = .ok (.iload_n 1, 1) := by decide +kernel
theorem d_Cd_code_55 : decode b_Cd_code 55 = .ok (.iload 4, 2) := by decide +kernel
theorem d_Cd_code_57 : decode b_Cd_code 57 = .ok (.invokevirtual 34, 3) := by decide +kernel
theorem d_Cd_code_60 : decode b_Cd_code 60 = .ok (.iconst 0, 1) := by decide +kernel
theorem d_Cd_code_61 : decode b_Cd_code 61 = .ok (.istore 5, 2) := by decide +kernel
theorem d_Cd_code_63 : decode b_Cd_code 63 = .ok (.iload 5, 2) := by decide +kernel
theorem d_Cd_code_65 : decode b_Cd_code 65 = .ok (.bipush 16, 2) := by decide +kernel
theorem d_Cd_code_67 : decode b_Cd_code 67 = .ok (.if_icmp .ge 32, 3) := by decide +kernel
theorem d_Cd_code_70 : decode b_Cd_code 70 = .ok (.aload_n 0, 1) := by decide +kernel
theorem d_Cd_code_71 : decode b_Cd_code 71 = .ok (.getfield 17, 3) := by decide +kernel
theorem d_Cd_code_74 : decode b_Cd_code 74 = .ok (.ldc 38, 2) := by decide +kernel
theorem d_Cd_code_76 : decode b_Cd_code 76 = .ok (.if_icmp .gt 23, 3) := by decide +kernel
theorem d_Cd_code_79 : decode b_Cd_code 79 = .ok (.aload_n 0, 1) := by decide +kernel
theorem d_Cd_code_80 : decode b_Cd_code 80 = .ok (.dup, 1) := by decide +kernel
theorem d_Cd_code_81 : decode b_Cd_code 81 = .ok (.getfield 17, 3) := by decide +kernel
theorem d_Cd_code_84 : decode b_Cd_code 84 = .ok (.iconst 2, 1) := by decide +kernel
theorem d_Cd_code_85 : decode b_Cd_code 85 = .ok (.imul, 1) := by decide +kernel
theorem d_Cd_code_86 : decode b_Cd_code 86 = .ok (.putfield 17, 3) := by decide +kernel
theorem d_Cd_code_89 : decode b_Cd_code 89 = .ok (.aload_n 0, 1) := by decide +kernel
theorem d_Cd_code_90 : decode b_Cd_code 90 = .ok (.invokevirtual 39, 3) := by decide +kernel
theorem d_Cd_code_93 : decode b_Cd_code 93 = .ok (.iinc 5 1, 3) := by decide +kernel
theorem d_Cd_code_96 : decode b_Cd_code 96 = .ok (.goto (-33), 3) := by decide +kernel
theorem d_Cd_code_99 : decode b_Cd_code 99 = .ok (.iload 4, 2) := by decide +kernel
theorem d_Cd_code_101 : decode b_Cd_code 101 = .ok (.ireturn, 1) := by decide +kernel
theorem d_Cd_tally_0 : decode b_Cd_tally 0 = .ok (.iload_n 2, 1) := by decide +kernel
theorem d_Cd_tally_1 : decode b_Cd_tally 1 = .ok (.ifCond .ne 16, 3) := by decide +kernel
theorem d_Cd_tally_4 : decode b_Cd_tally 4 = .ok (.aload_n 0, 1) := by decide +kernel
theorem d_Cd_tally_5 : decode b_Cd_tally 5 = .ok (.getfield 9, 3) := by decide +kernel
theorem d_Cd_tally_8 : decode b_Cd_tally 8 = .ok (.iload_n 1, 1) := by decide +kernel
theorem d_Cd_tally_9 : decode b_Cd_tally 9 = .ok (.dup2, 1) := by decide +kernel
theorem d_Cd_tally_10 : decode b_Cd_tally 10 = .ok (.iaload, 1) := by decide +kernel
theorem d_Cd_tally_11 : decode b_Cd_tally 11 = .ok (.iconst 1, 1) := by decide +kernel
theorem d_Cd_tally_12 : decode b_Cd_tally 12 = .ok (.iadd, 1) := by decide +kernel
theorem d_Cd_tally_13 : decode b_Cd_tally 13 = .ok (.iastore, 1) := by decide +kernel
theorem d_Cd_tally_14 : decode b_Cd_tally 14 = .ok (.goto 13, 3) := by decide +kernel
theorem d_Cd_tally_17 : decode b_Cd_tally 17 = .ok (.aload_n 0, 1) := by decide +kernel
theorem d_Cd_tally_18 : decode b_Cd_tally 18 = .ok (.getfield 13, 3) := by decide +kernel
theorem d_Cd_tally_21 : decode b_Cd_tally 21 = .ok (.iload_n 1, 1) := by decide +kernel
theorem d_Cd_tally_22 : decode b_Cd_tally 22 = .ok (.dup2, 1) := by decide +kernel
theorem d_Cd_tally_23 : decode b_Cd_tally 23 = .ok (.iaload, 1) := by decide +kernel
theorem d_Cd_tally_24 : decode b_Cd_tally 24 = .ok (.iconst 1, 1) := by decide +kernel
theorem d_Cd_tally_25 : decode b_Cd_tally 25 = .ok (.iadd, 1) := by decide +kernel
theorem d_Cd_tally_26 : decode b_Cd_tally 26 = .ok (.iastore, 1) := by decide +kernel
theorem d_Cd_tally_27 : decode b_Cd_tally 27 = .ok (.aload_n 0, 1) := by decide +kernel
theorem d_Cd_tally_28 : decode b_Cd_tally 28 = .ok (.getfield 9, 3) := by decide +kernel
theorem d_Cd_tally_31 : decode b_Cd_tally 31 = .ok (.iload_n 1, 1) := by decide +kernel
theorem d_Cd_tally_32 : decode b_Cd_tally 32 = .ok (.iaload, 1) := by decide +kernel
theorem d_Cd_tally_33 : decode b_Cd_tally 33 = .ok (.aload_n 0, 1) := by decide +kernel
theorem d_Cd_tally_34 : decode b_Cd_tally 34 = .ok (.getfield 13, 3) := by decide +kernel
theorem d_Cd_tally_37 : decode b_Cd_tally 37 = .ok (.iload_n 1, 1) := by decide +kernel
theorem d_Cd_tally_38 : decode b_Cd_tally 38 = .ok (.iaload, 1) := by decide +kernel
theorem d_Cd_tally_39 : decode b_Cd_tally 39 = .ok (.iadd, 1) := by decide +kernel
theorem d_Cd_tally_40 : decode b_Cd_tally 40 = .ok (.bipush 32, 2) := by decide +kernel
theorem d_Cd_tally_42 : decode b_Cd_tally 42 = .ok (.if_icmp .ne 35, 3) := by decide +kernel
theorem d_Cd_tally_45 : decode b_Cd_tally 45 = .ok (.aload_n 0, 1) := by decide +kernel
theorem d_Cd_tally_46 : decode b_Cd_tally 46 = .ok (.getfield 9, 3) := by decide +kernel
theorem d_Cd_tally_49 : decode b_Cd_tally 49 = .ok (.iload_n 1, 1) := by decide +kernel
theorem d_Cd_tally_50 : decode b_Cd_tally 50 = .ok (.aload_n 0, 1) := by decide +kernel
theorem d_Cd_tally_51 : decode b_Cd_tally 51 = .ok (.getfield 9, 3) := by decide +kernel
theorem d_Cd_tally_54 : decode b_Cd_tally 54 = .ok (.iload_n 1, 1) := by decide +kernel
theorem d_Cd_tally_55 : decode b_Cd_tally 55 = .ok (.iaload, 1) := by decide +kernel
theorem d_Cd_tally_56 : decode b_Cd_tally 56 = .ok (.iconst 1, 1) := by decide +kernel
theorem d_Cd_tally_57 : decode b_Cd_tally 57 = .ok (.iadd, 1) := by decide +kernel
theorem d_Cd_tally_58 : decode b_Cd_tally 58 = .ok (.iconst 2, 1) := by decide +kernel
theorem d_Cd_tally_59 : decode b_Cd_tally 59 = .ok (.idiv, 1) := by decide +kernel
theorem d_Cd_tally_60 : decode b_Cd_tally 60 = .ok (.iastore, 1) := by decide +kernel
theorem d_Cd_tally_61 : decode b_Cd_tally 61 = .ok (.aload_n 0, 1) := by decide +kernel
theorem d_Cd_tally_62 : decode b_Cd_tally 62 = .ok (.getfield 13, 3) := by decide +kernel
theorem d_Cd_tally_65 : decode b_Cd_tally 65 = .ok (.iload_n 1, 1) := by decide +kernel
theorem d_Cd_tally_66 : decode b_Cd_tally 66 = .ok (.aload_n 0, 1) := by decide +kernel
theorem d_Cd_tally_67 : decode b_Cd_tally 67 = .ok (.getfield 13, 3) := by decide +kernel
theorem d_Cd_tally_70 : decode b_Cd_tally 70 = .ok (.iload_n 1, 1) := by decide +kernel
theorem d_Cd_tally_71 : decode b_Cd_tally 71 = .ok (.iaload, 1) := by decide +kernel
theorem d_Cd_tally_72 : decode b_Cd_tally 72 = .ok (.iconst 1, 1) := by decide +kernel
theorem d_Cd_tally_73 : decode b_Cd_tally 73 = .ok (.iadd, 1) := by decide +kernel
theorem d_Cd_tally_74 : decode b_Cd_tally 74 = .ok (.iconst 2, 1) := by decide +kernel
theorem d_Cd_tally_75 : decode b_Cd_tally 75 = .ok (.idiv, 1) := by decide +kernel
theorem d_Cd_tally_76 : decode b_Cd_tally 76 = .ok (.iastore, 1) := by decide +kernel
theorem d_Cd_tally_77 : decode b_Cd_tally 77 = .ok (.return_, 1) := by decide +kernel
theorem d_Dr_init_0 : decode b_Dr_init 0 = .ok (.aload_n 0, 1) := by decide +kernel
theorem d_Dr_init_1 : decode b_Dr_init 1 = .ok (.invokespecial 3, 3) := by decide +kernel
theorem d_Dr_init_4 : decode b_Dr_init 4 = .ok (.aload_n 0, 1) := by decide +kernel
theorem d_Dr_init_5 : decode b_Dr_init 5 = .ok (.new 9, 3) := by decide +kernel
theorem d_Dr_init_8 : decode b_Dr_init 8 = .ok (.dup, 1) := by decide +kernel
theorem d_Dr_init_9 : decode b_Dr_init 9 = .ok (.invokespecial 11, 3) := by decide +kernel
theorem d_Dr_init_12 : decode b_Dr_init 12 = .ok (.putfield 12, 3) := by decide +kernel
theorem d_Dr_init_15 : decode b_Dr_init 15 = .ok (.return_, 1) := by decide +kernel
theorem d_Dr_read_0 : decode b_Dr_read 0 = .ok (.aload_n 2, 1) := by decide +kernel
theorem d_Dr_read_1 : decode b_Dr_read 1 = .ok (.invokevirtual 18, 3) := by decide +kernel
theorem d_Dr_read_4 : decode b_Dr_read 4 = .ok (.aload_n 1, 1) := by decide +kernel
theorem d_Dr_read_5 : decode b_Dr_read 5 = .ok (.iconst 0, 1) := by decide +kernel
theorem d_Dr_read_6 : decode b_Dr_read 6 = .ok (.invokevirtual 23, 3) := by decide +kernel
theorem d_Dr_read_9 : decode b_Dr_read 9 = .ok (.bipush 80, 2) := by decide +kernel
theorem d_Dr_read_11 : decode b_Dr_read 11 = .ok (.if_icmp .ne 13, 3) := by decide +kernel
theorem d_Dr_read_14 : decode b_Dr_read 14 = .ok (.aload_n 1, 1) := by decide +kernel
theorem d_Dr_read_15 : decode b_Dr_read 15 = .ok (.iconst 1, 1) := by decide +kernel
theorem d_Dr_read_16 : decode b_Dr_read 16 = .ok (.invokevirtual 23, 3) := by decide +kernel
theorem d_Dr_read_19 : decode b_Dr_read 19 = .ok (.bipush 71, 2) := by decide +kernel
theorem d_Dr_read_21 : decode b_Dr_read 21 = .ok (.if_icmp .eq 5, 3) := by decide +kernel
theorem d_Dr_read_24 : decode b_Dr_read 24 = .ok (.iconst 1, 1) := by decide +kernel
theorem d_Dr_read_25 : decode b_Dr_read 25 = .ok (.ireturn, 1) := by decide +kernel
theorem d_Dr_read_26 : decode b_Dr_read 26 = .ok (.iconst 0, 1) := by decide +kernel
theorem d_Dr_read_27 : decode b_Dr_read 27 = .ok (.istore_n 3, 1) := by decide +kernel
theorem d_Dr_read_28 : decode b_Dr_read 28 = .ok (.iconst 2, 1) := by decide +kernel
theorem d_Dr_read_29 : decode b_Dr_read 29 = .ok (.istore 4, 2) := by decide +kernel
theorem d_Dr_read_31 : decode b_Dr_read 31 = .ok (.iconst 0, 1) := by decide +kernel
theorem d_Dr_read_32 : decode b_Dr_read 32 = .ok (.istore 5, 2) := by decide +kernel
theorem d_Dr_read_34 : decode b_Dr_read 34 = .ok (.iload 5, 2) := by decide +kernel
theorem d_Dr_read_36 : decode b_Dr_read 36 = .ok (.bipush 16, 2) := by decide +kernel
theorem d_Dr_read_38 : decode b_Dr_read 38 = .ok (.if_icmp .gt 153, 3) := by decide +kernel
theorem d_Dr_read_41 : decode b_Dr_read 41 = .ok (.iload 4, 2) := by decide +kernel
theorem d_Dr_read_43 : decode b_Dr_read 43 = .ok (.aload_n 1, 1) := by decide +kernel
theorem d_Dr_read_44 : decode b_Dr_read 44 = .ok (.getfield 29, 3) := by decide +kernel
theorem d_Dr_read_47 : decode b_Dr_read 47 = .ok (.if_icmp .ge 144, 3) := by decide +kernel
theorem d_Dr_read_50 : decode b_Dr_read 50 = .ok (.iload_n 3, 1) := by decide +kernel
theorem d_Dr_read_51 : decode b_Dr_read 51 = .ok (.ifCond .ne 140, 3) := by decide +kernel
theorem d_Dr_read_54 : decode b_Dr_read 54 = .ok (.iload 4, 2) := by decide +kernel
theorem d_Dr_read_56 : decode b_Dr_read 56 = .ok (.iconst 3, 1) := by decide +kernel
theorem d_Dr_read_57 : decode b_Dr_read 57 = .ok (.iadd, 1) := by decide +kernel
theorem d_Dr_read_58 : decode b_Dr_read 58 = .ok (.istore 6, 2) := by decide +kernel
theorem d_Dr_read_60 : decode b_Dr_read 60 = .ok (.aload_n 1, 1) := by decide +kernel
theorem d_Dr_read_61 : decode b_Dr_read 61 = .ok (.iload 4, 2) := by decide +kernel
theorem d_Dr_read_63 : decode b_Dr_read 63 = .ok (.invokevirtual 33, 3) := by decide +kernel
theorem d_Dr_read_66 : decode b_Dr_read 66 = .ok (.istore 7, 2) := by decide +kernel
theorem d_Dr_read_68 : decode b_Dr_read 68 = .ok (.aload_n 1, 1) := by decide +kernel
theorem d_Dr_read_69 : decode b_Dr_read 69 = .ok (.iload 4, 2) := by decide +kernel
theorem d_Dr_read_71 : decode b_Dr_read 71 = .ok (.invokevirtual 23, 3) := by decide +kernel
theorem d_Dr_read_74 : decode b_Dr_read 74 = .ok (.istore 8, 2) := by decide +kernel
theorem d_Dr_read_76 : decode b_Dr_read 76 = .ok (.iload 7, 2) := by decide +kernel
theorem d_Dr_read_78 : decode b_Dr_read 78 = .ok (.iconst (-1), 1) := by decide +kernel
theorem d_Dr_read_79 : decode b_Dr_read 79 = .ok (.if_icmp .ne 8, 3) := by decide +kernel
theorem d_Dr_read_82 : decode b_Dr_read 82 = .ok (.iconst 2, 1) := by decide +kernel
theorem d_Dr_read_83 : decode b_Dr_read 83 = .ok (.istore_n 3, 1) := by decide +kernel
theorem d_Dr_read_84 : decode b_Dr_read 84 = .ok (.goto 94, 3) := by decide +kernel
theorem d_Dr_read_87 : decode b_Dr_read 87 = .ok (.iload 8, 2) := by decide +kernel
theorem d_Dr_read_89 : decode b_Dr_read 89 = .ok (.iconst 1, 1) := by decide +kernel
theorem d_Dr_read_90 : decode b_Dr_read 90 = .ok (.if_icmp .lt 16, 3) := by decide +kernel
theorem d_Dr_read_93 : decode b_Dr_read 93 = .ok (.iload 8, 2) := by decide +kernel
theorem d_Dr_read_95 : decode b_Dr_read 95 = .ok (.iconst 4, 1) := by decide +kernel
theorem d_Dr_read_96 : decode b_Dr_read 96 = .ok (.if_icmp .gt 10, 3) := by decide +kernel
theorem d_Dr_read_99 : decode b_Dr_read 99 = .ok (.iload 5, 2) := by decide +kernel
theorem d_Dr_read_101 : decode b_Dr_read 101 = .ok (.bipush 16, 2) := by decide +kernel
theorem d_Dr_read_103 : decode b_Dr_read 103 = .ok (.if_icmp .ne 8, 3) := by decide +kernel
theorem d_Dr_read_106 : decode b_Dr_read 106 = .ok (.iconst 3, 1) := by decide +kernel
theorem d_Dr_read_107 : decode b_Dr_read 107 = .ok (.istore_n 3, 1) := by decide +kernel
theorem d_Dr_read_108 : decode b_Dr_read 108 = .ok (.goto 70, 3) := by decide +kernel
theorem d_Dr_read_111 : decode b_Dr_read 111 = .ok (.iload 8, 2) := by decide +kernel
theorem d_Dr_read_113 : decode b_Dr_read 113 = .ok (.iconst 1, 1) := by decide +kernel
theorem d_Dr_read_114 : decode b_Dr_read 114 = .ok (.if_icmp .ne 17, 3) := by decide +kernel
theorem d_Dr_read_117 : decode b_Dr_read 117 = .ok (.aload_n 0, 1) := by decide +kernel
theorem d_Dr_read_118 : decode b_Dr_read 118 = .ok (.aload_n 1, 1) := by decide +kernel
theorem d_Dr_read_119 : decode b_Dr_read 119 = .ok (.iload 6, 2) := by decide +kernel
theorem d_Dr_read_121 : decode b_Dr_read 121 = .ok (.iload 7, 2) := by decide +kernel
theorem d_Dr_read_123 : decode b_Dr_read 123 = .ok (.aload_n 2, 1) := by decide +kernel
theorem d_Dr_read_124 : decode b_Dr_read 124 = .ok (.invokevirtual 36, 3) := by decide +kernel
theorem d_Dr_read_127 : decode b_Dr_read 127 = .ok (.istore_n 3, 1) := by decide +kernel
theorem d_Dr_read_128 : decode b_Dr_read 128 = .ok (.goto 50, 3) := by decide +kernel
theorem d_Dr_read_131 : decode b_Dr_read 131 = .ok (.iload 8, 2) := by decide +kernel
theorem d_Dr_read_133 : decode b_Dr_read 133 = .ok (.iconst 2, 1) := by decide +kernel
theorem d_Dr_read_134 : decode b_Dr_read 134 = .ok (.if_icmp .ne 17, 3) := by decide +kernel
theorem d_Dr_read_137 : decode b_Dr_read 137 = .ok (.aload_n 0, 1) := by decide +kernel
theorem d_Dr_read_138 : decode b_Dr_read 138 = .ok (.aload_n 1, 1) := by decide +kernel
theorem d_Dr_read_139 : decode b_Dr_read 139 = .ok (.iload 6, 2) := by decide +kernel
theorem d_Dr_read_141 : decode b_Dr_read 141 = .ok (.iload 7, 2) := by decide +kernel
theorem d_Dr_read_143 : decode b_Dr_read 143 = .ok (.aload_n 2, 1) := by decide +kernel
theorem d_Dr_read_144 : decode b_Dr_read 144 = .ok (.invokevirtual 40, 3) := by decide +kernel
theorem d_Dr_read_147 : decode b_Dr_read 147 = .ok (.istore_n 3, 1) := by decide +kernel
theorem d_Dr_read_148 : decode b_Dr_read 148 = .ok (.goto 30, 3) := by decide +kernel
theorem d_Dr_read_151 : decode b_Dr_read 151 = .ok (.aload_n 0, 1) := by decide +kernel
theorem d_Dr_read_152 : decode b_Dr_read 152 = .ok (.aload_n 1, 1) := by decide +kernel
theorem d_Dr_read_153 : decode b_Dr_read 153 = .ok (.iload 6, 2) := by decide +kernel
theorem d_Dr_read_155 : decode b_Dr_read 155 = .ok (.iload 7, 2) := by decide +kernel
theorem d_Dr_read_157 : decode b_Dr_read 157 = .ok (.iload 8, 2) := by decide +kernel
theorem d_Dr_read_159 : decode b_Dr_read 159 = .ok (.iconst 3, 1) := by decide +kernel
theorem d_Dr_read_160 : decode b_Dr_read 160 = .ok (.if_icmp .ne 10, 3) := by decide +kernel
theorem d_Dr_read_163 : decode b_Dr_read 163 = .ok (.aload_n 2, 1) := by decide +kernel
theorem d_Dr_read_164 : decode b_Dr_read 164 = .ok (.getfield 43, 3) := by decide +kernel
theorem d_Dr_read_167 : decode b_Dr_read 167 = .ok (.goto 7, 3) := by decide +kernel
theorem d_Dr_read_170 : decode b_Dr_read 170 = .ok (.aload_n 2, 1) := by decide +kernel
theorem d_Dr_read_171 : decode b_Dr_read 171 = .ok (.getfield 47, 3) := by decide +kernel
theorem d_Dr_read_174 : decode b_Dr_read 174 = .ok (.invokevirtual 50, 3) := by decide +kernel
theorem d_Dr_read_177 : decode b_Dr_read 177 = .ok (.istore_n 3, 1) := by decide +kernel
theorem d_Dr_read_178 : decode b_Dr_read 178 = .ok (.iload 6, 2) := by decide +kernel
theorem d_Dr_read_180 : decode b_Dr_read 180 = .ok (.iload 7, 2) := by decide +kernel
theorem d_Dr_read_182 : decode b_Dr_read 182 = .ok (.iadd, 1) := by decide +kernel
theorem d_Dr_read_183 : decode b_Dr_read 183 = .ok (.istore 4, 2) := by decide +kernel
theorem d_Dr_read_185 : decode b_Dr_read 185 = .ok (.iinc 5 1, 3) := by decide +kernel
theorem d_Dr_read_188 : decode b_Dr_read 188 = .ok (.goto (-154), 3) := by decide +kernel
theorem d_Dr_read_191 : decode b_Dr_read 191 = .ok (.iload_n 3, 1) := by decide +kernel
theorem d_Dr_read_192 : decode b_Dr_read 192 = .ok (.ireturn, 1) := by decide +kernel
theorem d_Dr_readShape_0 : decode b_Dr_readShape 0 = .ok (.iload_n 3, 1) := by decide +kernel
theorem d_Dr_readShape_1 : decode b_Dr_readShape 1 = .ok (.iconst 2, 1) := by decide +kernel
theorem d_Dr_readShape_2 : decode b_Dr_readShape 2 = .ok (.if_icmp .lt 16, 3) := by decide +kernel
theorem d_Dr_readShape_5 : decode b_Dr_readShape 5 = .ok (.aload_n 1, 1) := by decide +kernel
theorem d_Dr_readShape_6 : decode b_Dr_readShape 6 = .ok (.iload_n 2, 1) := by decide +kernel
theorem d_Dr_readShape_7 : decode b_Dr_readShape 7 = .ok (.invokevirtual 23, 3) := by decide +kernel
theorem d_Dr_readShape_10 : decode b_Dr_readShape 10 = .ok (.aload 4, 2) := by decide +kernel
theorem d_Dr_readShape_12 : decode b_Dr_readShape 12 = .ok (.getfield 54, 3) := by decide +kernel
theorem d_Dr_readShape_15 : decode b_Dr_readShape 15 = .ok (.if_icmp .le 5, 3) := by decide +kernel
theorem d_Dr_readShape_18 : decode b_Dr_readShape 18 = .ok (.iconst 4, 1) := by decide +kernel
theorem d_Dr_readShape_19 : decode b_Dr_readShape 19 = .ok (.ireturn, 1) := by decide +kernel
theorem d_Dr_readShape_20 : decode b_Dr_readShape 20 = .ok (.aload_n 1, 1) := by decide +kernel
theorem d_Dr_readShape_21 : decode b_Dr_readShape 21 = .ok (.iload_n 2, 1) := by decide +kernel
theorem d_Dr_readShape_22 : decode b_Dr_readShape 22 = .ok (.invokevirtual 23, 3) := by decide +kernel
theorem d_Dr_readShape_25 : decode b_Dr_readShape 25 = .ok (.ifCond .ne 7, 3) := by decide +kernel
theorem d_Dr_readShape_28 : decode b_Dr_readShape 28 = .ok (.iconst (-1), 1) := by decide +kernel
theorem d_Dr_readShape_29 : decode b_Dr_readShape 29 = .ok (.goto 10, 3) := by decide +kernel
theorem d_Dr_readShape_32 : decode b_Dr_readShape 32 = .ok (.aload_n 1, 1) := by decide +kernel
theorem d_Dr_readShape_33 : decode b_Dr_readShape 33 = .ok (.iload_n 2, 1) := by decide +kernel
theorem d_Dr_readShape_34 : decode b_Dr_readShape 34 = .ok (.invokevirtual 23, 3) := by decide +kernel
theorem d_Dr_readShape_37 : decode b_Dr_readShape 37 = .ok (.iconst 1, 1) := by decide +kernel
theorem d_Dr_readShape_38 : decode b_Dr_readShape 38 = .ok (.isub, 1) := by decide +kernel
theorem d_Dr_readShape_39 : decode b_Dr_readShape 39 = .ok (.istore 5, 2) := by decide +kernel
theorem d_Dr_readShape_41 : decode b_Dr_readShape 41 = .ok (.aload_n 1, 1) := by decide +kernel
theorem d_Dr_readShape_42 : decode b_Dr_readShape 42 = .ok (.iload_n 2, 1) := by decide +kernel
theorem d_Dr_readShape_43 : decode b_Dr_readShape 43 = .ok (.iconst 1, 1) := by decide +kernel
theorem d_Dr_readShape_44 : decode b_Dr_readShape 44 = .ok (.iadd, 1) := by decide +kernel
theorem d_Dr_readShape_45 : decode b_Dr_readShape 45 = .ok (.invokevirtual 23, 3) := by decide +kernel
theorem d_Dr_readShape_48 : decode b_Dr_readShape 48 = .ok (.bipush 16, 2) := by decide +kernel
theorem d_Dr_readShape_50 : decode b_Dr_readShape 50 = .ok (.idiv, 1) := by decide +kernel
theorem d_Dr_readShape_51 : decode b_Dr_readShape 51 = .ok (.iconst 1, 1) := by decide +kernel
theorem d_Dr_readShape_52 : decode b_Dr_readShape 52 = .ok (.iadd, 1) := by decide +kernel
theorem d_Dr_readShape_53 : decode b_Dr_readShape 53 = .ok (.istore 6, 2) := by decide +kernel
theorem d_Dr_readShape_55 : decode b_Dr_readShape 55 = .ok (.aload_n 1, 1) := by decide +kernel
theorem d_Dr_readShape_56 : decode b_Dr_readShape 56 = .ok (.iload_n 2, 1) := by decide +kernel
theorem d_Dr_readShape_57 : decode b_Dr_readShape 57 = .ok (.iconst 1, 1) := by decide +kernel
theorem d_Dr_readShape_58 : decode b_Dr_readShape 58 = .ok (.iadd, 1) := by decide +kernel
theorem d_Dr_readShape_59 : decode b_Dr_readShape 59 = .ok (.invokevirtual 23, 3) := by decide +kernel
theorem d_Dr_readShape_62 : decode b_Dr_readShape 62 = .ok (.bipush 16, 2) := by decide +kernel
theorem d_Dr_readShape_64 : decode b_Dr_readShape 64 = .ok (.irem, 1) := by decide +kernel
theorem d_Dr_readShape_65 : decode b_Dr_readShape 65 = .ok (.iconst 1, 1) := by decide +kernel
theorem d_Dr_readShape_66 : decode b_Dr_readShape 66 = .ok (.iadd, 1) := by decide +kernel
theorem d_Dr_readShape_67 : decode b_Dr_readShape 67 = .ok (.istore 7, 2) := by decide +kernel
theorem d_Dr_readShape_69 : decode b_Dr_readShape 69 = .ok (.iload 6, 2) := by decide +kernel
theorem d_Dr_readShape_71 : decode b_Dr_readShape 71 = .ok (.invokestatic 57, 3) := by decide +kernel
theorem d_Dr_readShape_74 : decode b_Dr_readShape 74 = .ok (.ifCond .eq 11, 3) := by decide +kernel
theorem d_Dr_readShape_77 : decode b_Dr_readShape 77 = .ok (.iload 7, 2) := by decide +kernel
theorem d_Dr_readShape_79 : decode b_Dr_readShape 79 = .ok (.invokestatic 57, 3) := by decide +kernel
theorem d_Dr_readShape_82 : decode b_Dr_readShape 82 = .ok (.ifCond .ne 5, 3) := by decide +kernel
theorem d_Dr_readShape_85 : decode b_Dr_readShape 85 = .ok (.iconst 4, 1) := by decide +kernel
theorem d_Dr_readShape_86 : decode b_Dr_readShape 86 = .ok (.ireturn, 1) := by decide +kernel
theorem d_Dr_readShape_87 : decode b_Dr_readShape 87 = .ok (.aload 4, 2) := by decide +kernel
theorem d_Dr_readShape_89 : decode b_Dr_readShape 89 = .ok (.lconst 0, 1) := by decide +kernel
theorem d_Dr_readShape_90 : decode b_Dr_readShape 90 = .ok (.iload 6, 2) := by decide +kernel
theorem d_Dr_readShape_92 : decode b_Dr_readShape 92 = .ok (.iload 7, 2) := by decide +kernel
theorem d_Dr_readShape_94 : decode b_Dr_readShape 94 = .ok (.iload 5, 2) := by decide +kernel
theorem d_Dr_readShape_96 : decode b_Dr_readShape 96 = .ok (.invokevirtual 61, 3) := by decide +kernel
theorem d_Dr_readShape_99 : decode b_Dr_readShape 99 = .ok (.istore 8, 2) := by decide +kernel
theorem d_Dr_readShape_101 : decode b_Dr_readShape 101 = .ok (.iload 8, 2) := by decide +kernel
theorem d_Dr_readShape_103 : decode b_Dr_readShape 103 = .ok (.iconst (-1), 1) := by decide +kernel
theorem d_Dr_readShape_104 : decode b_Dr_readShape 104 = .ok (.if_icmp .ne 5, 3) := by decide +kernel
theorem d_Dr_readShape_107 : decode b_Dr_readShape 107 = .ok (.iconst 4, 1) := by decide +kernel
theorem d_Dr_readShape_108 : decode b_Dr_readShape 108 = .ok (.ireturn, 1) := by decide +kernel
theorem d_Dr_readShape_109 : decode b_Dr_readShape 109 = .ok (.aload_n 0, 1) := by decide +kernel
theorem d_Dr_readShape_110 : decode b_Dr_readShape 110 = .ok (.getfield 12, 3) := by decide +kernel
theorem d_Dr_readShape_113 : decode b_Dr_readShape 113 = .ok (.aload_n 1, 1) := by decide +kernel
theorem d_Dr_readShape_114 : decode b_Dr_readShape 114 = .ok (.getfield 65, 3) := by decide +kernel
theorem d_Dr_readShape_117 : decode b_Dr_readShape 117 = .ok (.iload_n 2, 1) := by decide +kernel
theorem d_Dr_readShape_118 : decode b_Dr_readShape 118 = .ok (.iconst 2, 1) := by decide +kernel
theorem d_Dr_readShape_119 : decode b_Dr_readShape 119 = .ok (.iadd, 1) := by decide +kernel
theorem d_Dr_readShape_120 : decode b_Dr_readShape 120 = .ok (.iload_n 2, 1) := by decide +kernel
theorem d_Dr_readShape_121 : decode b_Dr_readShape 121 = .ok (.iload_n 3, 1) := by decide +kernel
theorem d_Dr_readShape_122 : decode b_Dr_readShape 122 = .ok (.iadd, 1) := by decide +kernel
theorem d_Dr_readShape_123 : decode b_Dr_readShape 123 = .ok (.invokevirtual 69, 3) := by decide +kernel
theorem d_Dr_readShape_126 : decode b_Dr_readShape 126 = .ok (.aload 4, 2) := by decide +kernel
theorem d_Dr_readShape_128 : decode b_Dr_readShape 128 = .ok (.iload 8, 2) := by decide +kernel
theorem d_Dr_readShape_130 : decode b_Dr_readShape 130 = .ok (.aload_n 0, 1) := by decide +kernel
theorem d_Dr_readShape_131 : decode b_Dr_readShape 131 = .ok (.getfield 12, 3) := by decide +kernel
theorem d_Dr_readShape_134 : decode b_Dr_readShape 134 = .ok (.invokevirtual 73, 3) := by decide +kernel
theorem d_Dr_readShape_137 : decode b_Dr_readShape 137 = .ok (.iconst 0, 1) := by decide +kernel
theorem d_Dr_readShape_138 : decode b_Dr_readShape 138 = .ok (.ireturn, 1) := by decide +kernel
theorem d_Dr_readPlacings_0 : decode b_Dr_readPlacings 0 = .ok (.iload_n 3, 1) := by decide +kernel
theorem d_Dr_readPlacings_1 : decode b_Dr_readPlacings 1 = .ok (.iconst 2, 1) := by decide +kernel
theorem d_Dr_readPlacings_2 : decode b_Dr_readPlacings 2 = .ok (.irem, 1) := by decide +kernel
theorem d_Dr_readPlacings_3 : decode b_Dr_readPlacings 3 = .ok (.ifCond .ne 17, 3) := by decide +kernel
theorem d_Dr_readPlacings_6 : decode b_Dr_readPlacings 6 = .ok (.iload_n 3, 1) := by decide +kernel
theorem d_Dr_readPlacings_7 : decode b_Dr_readPlacings 7 = .ok (.iconst 2, 1) := by decide +kernel
theorem d_Dr_readPlacings_8 : decode b_Dr_readPlacings 8 = .ok (.idiv, 1) := by decide +kernel
theorem d_Dr_readPlacings_9 : decode b_Dr_readPlacings 9 = .ok (.bipush 20, 2) := by decide +kernel
theorem d_Dr_readPlacings_11 : decode b_Dr_readPlacings 11 = .ok (.aload 4, 2) := by decide +kernel
theorem d_Dr_readPlacings_13 : decode b_Dr_readPlacings 13 = .ok (.getfield 77, 3) := by decide +kernel
theorem d_Dr_readPlacings_16 : decode b_Dr_readPlacings 16 = .ok (.isub, 1) := by decide +kernel
theorem d_Dr_readPlacings_17 : decode b_Dr_readPlacings 17 = .ok (.if_icmp .le 5, 3) := by decide +kernel
theorem d_Dr_readPlacings_20 : decode b_Dr_readPlacings 20 = .ok (.iconst 5, 1) := by decide +kernel
theorem d_Dr_readPlacings_21 : decode b_Dr_readPlacings 21 = .ok (.ireturn, 1) := by decide +kernel
theorem d_Dr_readPlacings_22 : decode b_Dr_readPlacings 22 = .ok (.iload_n 2, 1) := by decide +kernel
theorem d_Dr_readPlacings_23 : decode b_Dr_readPlacings 23 = .ok (.istore 5, 2) := by decide +kernel
theorem d_Dr_readPlacings_25 : decode b_Dr_readPlacings 25 = .ok (.iload 5, 2) := by decide +kernel
theorem d_Dr_readPlacings_27 : decode b_Dr_readPlacings 27 = .ok (.iload_n 2, 1) := by decide +kernel
theorem d_Dr_readPlacings_28 : decode b_Dr_readPlacings 28 = .ok (.iload_n 3, 1) := by decide +kernel
theorem d_Dr_readPlacings_29 : decode b_Dr_readPlacings 29 = .ok (.iadd, 1) := by decide +kernel
theorem d_Dr_readPlacings_30 : decode b_Dr_readPlacings 30 = .ok (.if_icmp .ge 45, 3) := by decide +kernel
theorem d_Dr_readPlacings_33 : decode b_Dr_readPlacings 33 = .ok (.aload 4, 2) := by decide +kernel
theorem d_Dr_readPlacings_35 : decode b_Dr_readPlacings 35 = .ok (.aload_n 1, 1) := by decide +kernel
theorem d_Dr_readPlacings_36 : decode b_Dr_readPlacings 36 = .ok (.iload 5, 2) := by decide +kernel
theorem d_Dr_readPlacings_38 : decode b_Dr_readPlacings 38 = .ok (.invokevirtual 23, 3) := by decide +kernel
theorem d_Dr_readPlacings_41 : decode b_Dr_readPlacings 41 = .ok (.invokevirtual 80, 3) := by decide +kernel
theorem d_Dr_readPlacings_44 : decode b_Dr_readPlacings 44 = .ok (.ifCond .ne 5, 3) := by decide +kernel
theorem d_Dr_readPlacings_47 : decode b_Dr_readPlacings 47 = .ok (.iconst 5, 1) := by decide +kernel
theorem d_Dr_readPlacings_48 : decode b_Dr_readPlacings 48 = .ok (.ireturn, 1) := by decide +kernel
theorem d_Dr_readPlacings_49 : decode b_Dr_readPlacings 49 = .ok (.aload 4, 2) := by decide +kernel
theorem d_Dr_readPlacings_51 : decode b_Dr_readPlacings 51 = .ok (.aload_n 1, 1) := by decide +kernel
theorem d_Dr_readPlacings_52 : decode b_Dr_readPlacings 52 = .ok (.iload 5, 2) := by decide +kernel
theorem d_Dr_readPlacings_54 : decode b_Dr_readPlacings 54 = .ok (.invokevirtual 23, 3) := by decide +kernel
theorem d_Dr_readPlacings_57 : decode b_Dr_readPlacings 57 = .ok (.aload_n 1, 1) := by decide +kernel
theorem d_Dr_readPlacings_58 : decode b_Dr_readPlacings 58 = .ok (.iload 5, 2) := by decide +kernel
theorem d_Dr_readPlacings_60 : decode b_Dr_readPlacings 60 = .ok (.iconst 1, 1) := by decide +kernel
theorem d_Dr_readPlacings_61 : decode b_Dr_readPlacings 61 = .ok (.iadd, 1) := by decide +kernel
theorem d_Dr_readPlacings_62 : decode b_Dr_readPlacings 62 = .ok (.invokevirtual 23, 3) := by decide +kernel
theorem d_Dr_readPlacings_65 : decode b_Dr_readPlacings 65 = .ok (.invokevirtual 83, 3) := by decide +kernel
theorem d_Dr_readPlacings_68 : decode b_Dr_readPlacings 68 = .ok (.pop, 1) := by decide +kernel
theorem d_Dr_readPlacings_69 : decode b_Dr_readPlacings 69 = .ok (.iinc 5 2, 3) := by decide +kernel
theorem d_Dr_readPlacings_72 : decode b_Dr_readPlacings 72 = .ok (.goto (-47), 3) := by decide +kernel
theorem d_Dr_readPlacings_75 : decode b_Dr_readPlacings 75 = .ok (.iconst 0, 1) := by decide +kernel
theorem d_Dr_readPlacings_76 : decode b_Dr_readPlacings 76 = .ok (.ireturn, 1) := by decide +kernel
theorem d_Dr_readLayer_0 : decode b_Dr_readLayer 0 = .ok (.aload 4, 2) := by decide +kernel
theorem d_Dr_readLayer_2 : decode b_Dr_readLayer 2 = .ok (.getfield 87, 3) := by decide +kernel
theorem d_Dr_readLayer_5 : decode b_Dr_readLayer 5 = .ok (.ifCond .ne 17, 3) := by decide +kernel
theorem d_Dr_readLayer_8 : decode b_Dr_readLayer 8 = .ok (.iload_n 3, 1) := by decide +kernel
theorem d_Dr_readLayer_9 : decode b_Dr_readLayer 9 = .ok (.ifCond .eq 13, 3) := by decide +kernel
theorem d_Dr_readLayer_12 : decode b_Dr_readLayer 12 = .ok (.aload_n 1, 1) := by decide +kernel
theorem d_Dr_readLayer_13 : decode b_Dr_readLayer 13 = .ok (.iload_n 2, 1) := by decide +kernel
theorem d_Dr_readLayer_14 : decode b_Dr_readLayer 14 = .ok (.invokevirtual 23, 3) := by decide +kernel
theorem d_Dr_readLayer_17 : decode b_Dr_readLayer 17 = .ok (.bipush 10, 2) := by decide +kernel
theorem d_Dr_readLayer_19 : decode b_Dr_readLayer 19 = .ok (.if_icmp .le 6, 3) := by decide +kernel
theorem d_Dr_readLayer_22 : decode b_Dr_readLayer 22 = .ok (.bipush 6, 2) := by decide +kernel
theorem d_Dr_readLayer_24 : decode b_Dr_readLayer 24 = .ok (.ireturn, 1) := by decide +kernel
theorem d_Dr_readLayer_25 : decode b_Dr_readLayer 25 = .ok (.aload 4, 2) := by decide +kernel
theorem d_Dr_readLayer_27 : decode b_Dr_readLayer 27 = .ok (.iconst 1, 1) := by decide +kernel
theorem d_Dr_readLayer_28 : decode b_Dr_readLayer 28 = .ok (.putfield 87, 3) := by decide +kernel
theorem d_Dr_readLayer_31 : decode b_Dr_readLayer 31 = .ok (.aload_n 0, 1) := by decide +kernel
theorem d_Dr_readLayer_32 : decode b_Dr_readLayer 32 = .ok (.getfield 12, 3) := by decide +kernel
theorem d_Dr_readLayer_35 : decode b_Dr_readLayer 35 = .ok (.aload_n 1, 1) := by decide +kernel
theorem d_Dr_readLayer_36 : decode b_Dr_readLayer 36 = .ok (.getfield 65, 3) := by decide +kernel
theorem d_Dr_readLayer_39 : decode b_Dr_readLayer 39 = .ok (.iload_n 2, 1) := by decide +kernel
theorem d_Dr_readLayer_40 : decode b_Dr_readLayer 40 = .ok (.iconst 1, 1) := by decide +kernel
theorem d_Dr_readLayer_41 : decode b_Dr_readLayer 41 = .ok (.iadd, 1) := by decide +kernel
theorem d_Dr_readLayer_42 : decode b_Dr_readLayer 42 = .ok (.iload_n 2, 1) := by decide +kernel
theorem d_Dr_readLayer_43 : decode b_Dr_readLayer 43 = .ok (.iload_n 3, 1) := by decide +kernel
theorem d_Dr_readLayer_44 : decode b_Dr_readLayer 44 = .ok (.iadd, 1) := by decide +kernel
theorem d_Dr_readLayer_45 : decode b_Dr_readLayer 45 = .ok (.invokevirtual 69, 3) := by decide +kernel
theorem d_Dr_readLayer_48 : decode b_Dr_readLayer 48 = .ok (.aload 4, 2) := by decide +kernel
theorem d_Dr_readLayer_50 : decode b_Dr_readLayer 50 = .ok (.aload_n 1, 1) := by decide +kernel
theorem d_Dr_readLayer_51 : decode b_Dr_readLayer 51 = .ok (.iload_n 2, 1) := by decide +kernel
theorem d_Dr_readLayer_52 : decode b_Dr_readLayer 52 = .ok (.invokevirtual 23, 3) := by decide +kernel
theorem d_Dr_readLayer_55 : decode b_Dr_readLayer 55 = .ok (.aload_n 0, 1) := by decide +kernel
theorem d_Dr_readLayer_56 : decode b_Dr_readLayer 56 = .ok (.getfield 12, 3) := by decide +kernel
theorem d_Dr_readLayer_59 : decode b_Dr_readLayer 59 = .ok (.invokevirtual 93, 3) := by decide +kernel
theorem d_Dr_readLayer_62 : decode b_Dr_readLayer 62 = .ok (.aload 4, 2) := by decide +kernel
theorem d_Dr_readLayer_64 : decode b_Dr_readLayer 64 = .ok (.invokevirtual 96, 3) := by decide +kernel
theorem d_Dr_readLayer_67 : decode b_Dr_readLayer 67 = .ok (.iconst 0, 1) := by decide +kernel
theorem d_Dr_readLayer_68 : decode b_Dr_readLayer 68 = .ok (.ireturn, 1) := by decide +kernel
theorem d_Dw_init_0 : decode b_Dw_init 0 = .ok (.aload_n 0, 1) := by decide +kernel
theorem d_Dw_init_1 : decode b_Dw_init 1 = .ok (.invokespecial 3, 3) := by decide +kernel
theorem d_Dw_init_4 : decode b_Dw_init 4 = .ok (.aload_n 0, 1) := by decide +kernel
theorem d_Dw_init_5 : decode b_Dw_init 5 = .ok (.new 9, 3) := by decide +kernel
theorem d_Dw_init_8 : decode b_Dw_init 8 = .ok (.dup, 1) := by decide +kernel
theorem d_Dw_init_9 : decode b_Dw_init 9 = .ok (.invokespecial 11, 3) := by decide +kernel
theorem d_Dw_init_12 : decode b_Dw_init 12 = .ok (.putfield 12, 3) := by decide +kernel
theorem d_Dw_init_15 : decode b_Dw_init 15 = .ok (.return_, 1) := by decide +kernel
theorem d_Dw_write_0 : decode b_Dw_write 0 = .ok (.aload_n 3, 1) := by decide +kernel
theorem d_Dw_write_1 : decode b_Dw_write 1 = .ok (.iconst 0, 1) := by decide +kernel
theorem d_Dw_write_2 : decode b_Dw_write 2 = .ok (.invokevirtual 18, 3) := by decide +kernel
theorem d_Dw_write_5 : decode b_Dw_write 5 = .ok (.aload_n 3, 1) := by decide +kernel
theorem d_Dw_write_6 : decode b_Dw_write 6 = .ok (.bipush 80, 2) := by decide +kernel
theorem d_Dw_write_8 : decode b_Dw_write 8 = .ok (.invokevirtual 24, 3) := by decide +kernel
theorem d_Dw_write_11 : decode b_Dw_write 11 = .ok (.aload_n 3, 1) := by decide +kernel
theorem d_Dw_write_12 : decode b_Dw_write 12 = .ok (.bipush 71, 2) := by decide +kernel
theorem d_Dw_write_14 : decode b_Dw_write 14 = .ok (.invokevirtual 24, 3) := by decide +kernel
theorem d_Dw_write_17 : decode b_Dw_write 17 = .ok (.iconst 0, 1) := by decide +kernel
theorem d_Dw_write_18 : decode b_Dw_write 18 = .ok (.istore 4, 2) := by decide +kernel
theorem d_Dw_write_20 : decode b_Dw_write 20 = .ok (.iload 4, 2) := by decide +kernel
theorem d_Dw_write_22 : decode b_Dw_write 22 = .ok (.aload_n 1, 1) := by decide +kernel
theorem d_Dw_write_23 : decode b_Dw_write 23 = .ok (.getfield 27, 3) := by decide +kernel
theorem d_Dw_write_26 : decode b_Dw_write 26 = .ok (.if_icmp .ge 17, 3) := by decide +kernel
theorem d_Dw_write_29 : decode b_Dw_write 29 = .ok (.aload_n 0, 1) := by decide +kernel
theorem d_Dw_write_30 : decode b_Dw_write 30 = .ok (.aload_n 1, 1) := by decide +kernel
theorem d_Dw_write_31 : decode b_Dw_write 31 = .ok (.iload 4, 2) := by decide +kernel
theorem d_Dw_write_33 : decode b_Dw_write 33 = .ok (.aload_n 3, 1) := by decide +kernel
theorem d_Dw_write_34 : decode b_Dw_write 34 = .ok (.invokevirtual 33, 3) := by decide +kernel
theorem d_Dw_write_37 : decode b_Dw_write 37 = .ok (.iinc 4 1, 3) := by decide +kernel
theorem d_Dw_write_40 : decode b_Dw_write 40 = .ok (.goto (-20), 3) := by decide +kernel
theorem d_Dw_write_43 : decode b_Dw_write 43 = .ok (.aload_n 0, 1) := by decide +kernel
theorem d_Dw_write_44 : decode b_Dw_write 44 = .ok (.aload_n 1, 1) := by decide +kernel
theorem d_Dw_write_45 : decode b_Dw_write 45 = .ok (.aload_n 3, 1) := by decide +kernel
theorem d_Dw_write_46 : decode b_Dw_write 46 = .ok (.invokevirtual 37, 3) := by decide +kernel
theorem d_Dw_write_49 : decode b_Dw_write 49 = .ok (.aload_n 0, 1) := by decide +kernel
theorem d_Dw_write_50 : decode b_Dw_write 50 = .ok (.iconst 3, 1) := by decide +kernel
theorem d_Dw_write_51 : decode b_Dw_write 51 = .ok (.aload_n 1, 1) := by decide +kernel
theorem d_Dw_write_52 : decode b_Dw_write 52 = .ok (.getfield 41, 3) := by decide +kernel
theorem d_Dw_write_55 : decode b_Dw_write 55 = .ok (.iload_n 2, 1) := by decide +kernel
theorem d_Dw_write_56 : decode b_Dw_write 56 = .ok (.aload_n 3, 1) := by decide +kernel
theorem d_Dw_write_57 : decode b_Dw_write 57 = .ok (.invokevirtual 45, 3) := by decide +kernel
theorem d_Dw_write_60 : decode b_Dw_write 60 = .ok (.aload_n 0, 1) := by decide +kernel
theorem d_Dw_write_61 : decode b_Dw_write 61 = .ok (.iconst 4, 1) := by decide +kernel
theorem d_Dw_write_62 : decode b_Dw_write 62 = .ok (.aload_n 1, 1) := by decide +kernel
theorem d_Dw_write_63 : decode b_Dw_write 63 = .ok (.getfield 49, 3) := by decide +kernel
theorem d_Dw_write_66 : decode b_Dw_write 66 = .ok (.iload_n 2, 1) := by decide +kernel
theorem d_Dw_write_67 : decode b_Dw_write 67 = .ok (.aload_n 3, 1) := by decide +kernel
theorem d_Dw_write_68 : decode b_Dw_write 68 = .ok (.invokevirtual 45, 3) := by decide +kernel
theorem d_Dw_write_71 : decode b_Dw_write 71 = .ok (.return_, 1) := by decide +kernel
theorem d_Dw_writeShape_0 : decode b_Dw_writeShape 0 = .ok (.aload_n 1, 1) := by decide +kernel
theorem d_Dw_writeShape_1 : decode b_Dw_writeShape 1 = .ok (.getfield 52, 3) := by decide +kernel
theorem d_Dw_writeShape_4 : decode b_Dw_writeShape 4 = .ok (.iload_n 2, 1) := by decide +kernel
theorem d_Dw_writeShape_5 : decode b_Dw_writeShape 5 = .ok (.aaload, 1) := by decide +kernel
theorem d_Dw_writeShape_6 : decode b_Dw_writeShape 6 = .ok (.astore 4, 2) := by decide +kernel
theorem d_Dw_writeShape_8 : decode b_Dw_writeShape 8 = .ok (.aload_n 3, 1) := by decide +kernel
theorem d_Dw_writeShape_9 : decode b_Dw_writeShape 9 = .ok (.iconst 1, 1) := by decide +kernel
theorem d_Dw_writeShape_10 : decode b_Dw_writeShape 10 = .ok (.invokevirtual 56, 3) := by decide +kernel
theorem d_Dw_writeShape_13 : decode b_Dw_writeShape 13 = .ok (.istore 5, 2) := by decide +kernel
theorem d_Dw_writeShape_15 : decode b_Dw_writeShape 15 = .ok (.aload_n 3, 1) := by decide +kernel
theorem d_Dw_writeShape_16 : decode b_Dw_writeShape 16 = .ok (.aload 4, 2) := by decide +kernel
theorem d_Dw_writeShape_18 : decode b_Dw_writeShape 18 = .ok (.getfield 60, 3) := by decide +kernel
theorem d_Dw_writeShape_21 : decode b_Dw_writeShape 21 = .ok (.iconst (-1), 1) := by decide +kernel
theorem d_Dw_writeShape_22 : decode b_Dw_writeShape 22 = .ok (.if_icmp .ne 7, 3) := by decide +kernel
theorem d_Dw_writeShape_25 : decode b_Dw_writeShape 25 = .ok (.iconst 0, 1) := by decide +kernel
theorem d_Dw_writeShape_26 : decode b_Dw_writeShape 26 = .ok (.goto 10, 3) := by decide +kernel
theorem d_Dw_writeShape_29 : decode b_Dw_writeShape 29 = .ok (.aload 4, 2) := by decide +kernel
theorem d_Dw_writeShape_31 : decode b_Dw_writeShape 31 = .ok (.getfield 60, 3) := by decide +kernel
theorem d_Dw_writeShape_34 : decode b_Dw_writeShape 34 = .ok (.iconst 1, 1) := by decide +kernel
theorem d_Dw_writeShape_35 : decode b_Dw_writeShape 35 = .ok (.iadd, 1) := by decide +kernel
theorem d_Dw_writeShape_36 : decode b_Dw_writeShape 36 = .ok (.invokevirtual 24, 3) := by decide +kernel
theorem d_Dw_writeShape_39 : decode b_Dw_writeShape 39 = .ok (.aload_n 3, 1) := by decide +kernel
theorem d_Dw_writeShape_40 : decode b_Dw_writeShape 40 = .ok (.bipush 16, 2) := by decide +kernel
theorem d_Dw_writeShape_42 : decode b_Dw_writeShape 42 = .ok (.aload 4, 2) := by decide +kernel
theorem d_Dw_writeShape_44 : decode b_Dw_writeShape 44 = .ok (.getfield 65, 3) := by decide +kernel
theorem d_Dw_writeShape_47 : decode b_Dw_writeShape 47 = .ok (.iconst 1, 1) := by decide +kernel
theorem d_Dw_writeShape_48 : decode b_Dw_writeShape 48 = .ok (.isub, 1) := by decide +kernel
theorem d_Dw_writeShape_49 : decode b_Dw_writeShape 49 = .ok (.imul, 1) := by decide +kernel
theorem d_Dw_writeShape_50 : decode b_Dw_writeShape 50 = .ok (.aload 4, 2) := by decide +kernel
theorem d_Dw_writeShape_52 : decode b_Dw_writeShape 52 = .ok (.getfield 68, 3) := by decide +kernel
theorem d_Dw_writeShape_55 : decode b_Dw_writeShape 55 = .ok (.iadd, 1) := by decide +kernel
theorem d_Dw_writeShape_56 : decode b_Dw_writeShape 56 = .ok (.iconst 1, 1) := by decide +kernel
theorem d_Dw_writeShape_57 : decode b_Dw_writeShape 57 = .ok (.isub, 1) := by decide +kernel
theorem d_Dw_writeShape_58 : decode b_Dw_writeShape 58 = .ok (.invokevirtual 24, 3) := by decide +kernel
theorem d_Dw_writeShape_61 : decode b_Dw_writeShape 61 = .ok (.aload_n 0, 1) := by decide +kernel
theorem d_Dw_writeShape_62 : decode b_Dw_writeShape 62 = .ok (.getfield 12, 3) := by decide +kernel
theorem d_Dw_writeShape_65 : decode b_Dw_writeShape 65 = .ok (.aload_n 3, 1) := by decide +kernel
theorem d_Dw_writeShape_66 : decode b_Dw_writeShape 66 = .ok (.getfield 71, 3) := by decide +kernel
theorem d_Dw_writeShape_69 : decode b_Dw_writeShape 69 = .ok (.aload_n 3, 1) := by decide +kernel
theorem d_Dw_writeShape_70 : decode b_Dw_writeShape 70 = .ok (.getfield 75, 3) := by decide +kernel
theorem d_Dw_writeShape_73 : decode b_Dw_writeShape 73 = .ok (.invokevirtual 78, 3) := by decide +kernel
theorem d_Dw_writeShape_76 : decode b_Dw_writeShape 76 = .ok (.aload_n 1, 1) := by decide +kernel
theorem d_Dw_writeShape_77 : decode b_Dw_writeShape 77 = .ok (.iload_n 2, 1) := by decide +kernel
theorem d_Dw_writeShape_78 : decode b_Dw_writeShape 78 = .ok (.aload_n 0, 1) := by decide +kernel
theorem d_Dw_writeShape_79 : decode b_Dw_writeShape 79 = .ok (.getfield 12, 3) := by decide +kernel
theorem d_Dw_writeShape_82 : decode b_Dw_writeShape 82 = .ok (.invokevirtual 82, 3) := by decide +kernel
theorem d_Dw_writeShape_85 : decode b_Dw_writeShape 85 = .ok (.aload_n 3, 1) := by decide +kernel
theorem d_Dw_writeShape_86 : decode b_Dw_writeShape 86 = .ok (.aload_n 0, 1) := by decide +kernel
theorem d_Dw_writeShape_87 : decode b_Dw_writeShape 87 = .ok (.getfield 12, 3) := by decide +kernel
theorem d_Dw_writeShape_90 : decode b_Dw_writeShape 90 = .ok (.invokevirtual 86, 3) := by decide +kernel
theorem d_Dw_writeShape_93 : decode b_Dw_writeShape 93 = .ok (.invokevirtual 90, 3) := by decide +kernel
theorem d_Dw_writeShape_96 : decode b_Dw_writeShape 96 = .ok (.aload_n 3, 1) := by decide +kernel
theorem d_Dw_writeShape_97 : decode b_Dw_writeShape 97 = .ok (.iload 5, 2) := by decide +kernel
theorem d_Dw_writeShape_99 : decode b_Dw_writeShape 99 = .ok (.invokevirtual 93, 3) := by decide +kernel
theorem d_Dw_writeShape_102 : decode b_Dw_writeShape 102 = .ok (.return_, 1) := by decide +kernel
theorem d_Dw_writePlacings_0 : decode b_Dw_writePlacings 0 = .ok (.aload_n 2, 1) := by decide +kernel
theorem d_Dw_writePlacings_1 : decode b_Dw_writePlacings 1 = .ok (.iconst 2, 1) := by decide +kernel
theorem d_Dw_writePlacings_2 : decode b_Dw_writePlacings 2 = .ok (.invokevirtual 56, 3) := by decide +kernel
theorem d_Dw_writePlacings_5 : decode b_Dw_writePlacings 5 = .ok (.istore_n 3, 1) := by decide +kernel
theorem d_Dw_writePlacings_6 : decode b_Dw_writePlacings 6 = .ok (.iconst 0, 1) := by decide +kernel
theorem d_Dw_writePlacings_7 : decode b_Dw_writePlacings 7 = .ok (.istore 4, 2) := by decide +kernel
theorem d_Dw_writePlacings_9 : decode b_Dw_writePlacings 9 = .ok (.iload 4, 2) := by decide +kernel
theorem d_Dw_writePlacings_11 : decode b_Dw_writePlacings 11 = .ok (.aload_n 1, 1) := by decide +kernel
theorem d_Dw_writePlacings_12 : decode b_Dw_writePlacings 12 = .ok (.getfield 96, 3) := by decide +kernel
theorem d_Dw_writePlacings_15 : decode b_Dw_writePlacings 15 = .ok (.if_icmp .ge 31, 3) := by decide +kernel
theorem d_Dw_writePlacings_18 : decode b_Dw_writePlacings 18 = .ok (.aload_n 2, 1) := by decide +kernel
theorem d_Dw_writePlacings_19 : decode b_Dw_writePlacings 19 = .ok (.aload_n 1, 1) := by decide +kernel
theorem d_Dw_writePlacings_20 : decode b_Dw_writePlacings 20 = .ok (.getfield 99, 3) := by decide +kernel
theorem d_Dw_writePlacings_23 : decode b_Dw_writePlacings 23 = .ok (.iload 4, 2) := by decide +kernel
theorem d_Dw_writePlacings_25 : decode b_Dw_writePlacings 25 = .ok (.iaload, 1) := by decide +kernel
theorem d_Dw_writePlacings_26 : decode b_Dw_writePlacings 26 = .ok (.invokevirtual 24, 3) := by decide +kernel
theorem d_Dw_writePlacings_29 : decode b_Dw_writePlacings 29 = .ok (.aload_n 2, 1) := by decide +kernel
theorem d_Dw_writePlacings_30 : decode b_Dw_writePlacings 30 = .ok (.aload_n 1, 1) := by decide +kernel
theorem d_Dw_writePlacings_31 : decode b_Dw_writePlacings 31 = .ok (.getfield 102, 3) := by decide +kernel
theorem d_Dw_writePlacings_34 : decode b_Dw_writePlacings 34 = .ok (.iload 4, 2) := by decide +kernel
theorem d_Dw_writePlacings_36 : decode b_Dw_writePlacings 36 = .ok (.iaload, 1) := by decide +kernel
theorem d_Dw_writePlacings_37 : decode b_Dw_writePlacings 37 = .ok (.invokevirtual 24, 3) := by decide +kernel
theorem d_Dw_writePlacings_40 : decode b_Dw_writePlacings 40 = .ok (.iinc 4 1, 3) := by decide +kernel
theorem d_Dw_writePlacings_43 : decode b_Dw_writePlacings 43 = .ok (.goto (-34), 3) := by decide +kernel
theorem d_Dw_writePlacings_46 : decode b_Dw_writePlacings 46 = .ok (.aload_n 2, 1) := by decide +kernel
theorem d_Dw_writePlacings_47 : decode b_Dw_writePlacings 47 = .ok (.iload_n 3, 1) := by decide +kernel
theorem d_Dw_writePlacings_48 : decode b_Dw_writePlacings 48 = .ok (.invokevirtual 93, 3) := by decide +kernel
theorem d_Dw_writePlacings_51 : decode b_Dw_writePlacings 51 = .ok (.return_, 1) := by decide +kernel
theorem d_Dw_writeLayer_0 : decode b_Dw_writeLayer 0 = .ok (.aload 4, 2) := by decide +kernel
theorem d_Dw_writeLayer_2 : decode b_Dw_writeLayer 2 = .ok (.iload_n 1, 1) := by decide +kernel
theorem d_Dw_writeLayer_3 : decode b_Dw_writeLayer 3 = .ok (.invokevirtual 56, 3) := by decide +kernel
theorem d_Dw_writeLayer_6 : decode b_Dw_writeLayer 6 = .ok (.istore 5, 2) := by decide +kernel
theorem d_Dw_writeLayer_8 : decode b_Dw_writeLayer 8 = .ok (.aload 4, 2) := by decide +kernel
theorem d_Dw_writeLayer_10 : decode b_Dw_writeLayer 10 = .ok (.iload_n 3, 1) := by decide +kernel
theorem d_Dw_writeLayer_11 : decode b_Dw_writeLayer 11 = .ok (.invokevirtual 24, 3) := by decide +kernel
theorem d_Dw_writeLayer_14 : decode b_Dw_writeLayer 14 = .ok (.aload_n 2, 1) := by decide +kernel
theorem d_Dw_writeLayer_15 : decode b_Dw_writeLayer 15 = .ok (.invokevirtual 105, 3) := by decide +kernel
theorem d_Dw_writeLayer_18 : decode b_Dw_writeLayer 18 = .ok (.aload_n 0, 1) := by decide +kernel
theorem d_Dw_writeLayer_19 : decode b_Dw_writeLayer 19 = .ok (.getfield 12, 3) := by decide +kernel
theorem d_Dw_writeLayer_22 : decode b_Dw_writeLayer 22 = .ok (.aload 4, 2) := by decide +kernel
theorem d_Dw_writeLayer_24 : decode b_Dw_writeLayer 24 = .ok (.getfield 71, 3) := by decide +kernel
theorem d_Dw_writeLayer_27 : decode b_Dw_writeLayer 27 = .ok (.aload 4, 2) := by decide +kernel
theorem d_Dw_writeLayer_29 : decode b_Dw_writeLayer 29 = .ok (.getfield 75, 3) := by decide +kernel
theorem d_Dw_writeLayer_32 : decode b_Dw_writeLayer 32 = .ok (.invokevirtual 78, 3) := by decide +kernel
theorem d_Dw_writeLayer_35 : decode b_Dw_writeLayer 35 = .ok (.aload_n 2, 1) := by decide +kernel
theorem d_Dw_writeLayer_36 : decode b_Dw_writeLayer 36 = .ok (.iload_n 3, 1) := by decide +kernel
theorem d_Dw_writeLayer_37 : decode b_Dw_writeLayer 37 = .ok (.aload_n 0, 1) := by decide +kernel
theorem d_Dw_writeLayer_38 : decode b_Dw_writeLayer 38 = .ok (.getfield 12, 3) := by decide +kernel
theorem d_Dw_writeLayer_41 : decode b_Dw_writeLayer 41 = .ok (.invokevirtual 110, 3) := by decide +kernel
theorem d_Dw_writeLayer_44 : decode b_Dw_writeLayer 44 = .ok (.aload 4, 2) := by decide +kernel
theorem d_Dw_writeLayer_46 : decode b_Dw_writeLayer 46 = .ok (.aload_n 0, 1) := by decide +kernel
theorem d_Dw_writeLayer_47 : decode b_Dw_writeLayer 47 = .ok (.getfield 12, 3) := by decide +kernel
theorem d_Dw_writeLayer_50 : decode b_Dw_writeLayer 50 = .ok (.invokevirtual 86, 3) := by decide +kernel
theorem d_Dw_writeLayer_53 : decode b_Dw_writeLayer 53 = .ok (.invokevirtual 90, 3) := by decide +kernel
theorem d_Dw_writeLayer_56 : decode b_Dw_writeLayer 56 = .ok (.aload 4, 2) := by decide +kernel
theorem d_Dw_writeLayer_58 : decode b_Dw_writeLayer 58 = .ok (.iload 5, 2) := by decide +kernel
theorem d_Dw_writeLayer_60 : decode b_Dw_writeLayer 60 = .ok (.invokevirtual 93, 3) := by decide +kernel
theorem d_Dw_writeLayer_63 : decode b_Dw_writeLayer 63 = .ok (.return_, 1) := by decide +kernel
theorem d_Ly_init_0 : decode b_Ly_init 0 = .ok (.aload_n 0, 1) := by decide +kernel
theorem d_Ly_init_1 : decode b_Ly_init 1 = .ok (.invokespecial 3, 3) := by decide +kernel
theorem d_Ly_init_4 : decode b_Ly_init 4 = .ok (.aload_n 0, 1) := by decide +kernel
theorem d_Ly_init_5 : decode b_Ly_init 5 = .ok (.iconst 0, 1) := by decide +kernel
theorem d_Ly_init_6 : decode b_Ly_init 6 = .ok (.putfield 9, 3) := by decide +kernel
theorem d_Ly_init_9 : decode b_Ly_init 9 = .ok (.aload_n 0, 1) := by decide +kernel
theorem d_Ly_init_10 : decode b_Ly_init 10 = .ok (.iload_n 1, 1) := by decide +kernel
theorem d_Ly_init_11 : decode b_Ly_init 11 = .ok (.putfield 15, 3) := by decide +kernel
theorem d_Ly_init_14 : decode b_Ly_init 14 = .ok (.aload_n 0, 1) := by decide +kernel
theorem d_Ly_init_15 : decode b_Ly_init 15 = .ok (.iload_n 1, 1) := by decide +kernel
theorem d_Ly_init_16 : decode b_Ly_init 16 = .ok (.iload_n 1, 1) := by decide +kernel
theorem d_Ly_init_17 : decode b_Ly_init 17 = .ok (.imul, 1) := by decide +kernel
theorem d_Ly_init_18 : decode b_Ly_init 18 = .ok (.newarray .int, 2) := by decide +kernel
theorem d_Ly_init_20 : decode b_Ly_init 20 = .ok (.putfield 19, 3) := by decide +kernel
theorem d_Ly_init_23 : decode b_Ly_init 23 = .ok (.aload_n 0, 1) := by decide +kernel
theorem d_Ly_init_24 : decode b_Ly_init 24 = .ok (.iload_n 1, 1) := by decide +kernel
theorem d_Ly_init_25 : decode b_Ly_init 25 = .ok (.iload_n 1, 1) := by decide +kernel
theorem d_Ly_init_26 : decode b_Ly_init 26 = .ok (.imul, 1) := by decide +kernel
theorem d_Ly_init_27 : decode b_Ly_init 27 = .ok (.newarray .int, 2) := by decide +kernel
theorem d_Ly_init_29 : decode b_Ly_init 29 = .ok (.putfield 23, 3) := by decide +kernel
theorem d_Ly_init_32 : decode b_Ly_init 32 = .ok (.aload_n 0, 1) := by decide +kernel
theorem d_Ly_init_33 : decode b_Ly_init 33 = .ok (.iload_n 1, 1) := by decide +kernel
theorem d_Ly_init_34 : decode b_Ly_init 34 = .ok (.iload_n 1, 1) := by decide +kernel
theorem d_Ly_init_35 : decode b_Ly_init 35 = .ok (.imul, 1) := by decide +kernel
theorem d_Ly_init_36 : decode b_Ly_init 36 = .ok (.newarray .int, 2) := by decide +kernel
theorem d_Ly_init_38 : decode b_Ly_init 38 = .ok (.putfield 26, 3) := by decide +kernel
theorem d_Ly_init_41 : decode b_Ly_init 41 = .ok (.aload_n 0, 1) := by decide +kernel
theorem d_Ly_init_42 : decode b_Ly_init 42 = .ok (.iload_n 1, 1) := by decide +kernel
theorem d_Ly_init_43 : decode b_Ly_init 43 = .ok (.newarray .int, 2) := by decide +kernel
theorem d_Ly_init_45 : decode b_Ly_init 45 = .ok (.putfield 29, 3) := by decide +kernel
theorem d_Ly_init_48 : decode b_Ly_init 48 = .ok (.return_, 1) := by decide +kernel
theorem d_Ly_makeEmpty_0 : decode b_Ly_makeEmpty 0 = .ok (.aload_n 0, 1) := by decide +kernel
theorem d_Ly_makeEmpty_1 : decode b_Ly_makeEmpty 1 = .ok (.getfield 19, 3) := by decide +kernel
theorem d_Ly_makeEmpty_4 : decode b_Ly_makeEmpty 4 = .ok (.iconst 0, 1) := by decide +kernel
theorem d_Ly_makeEmpty_5 : decode b_Ly_makeEmpty 5 = .ok (.invokestatic 32, 3) := by decide +kernel
theorem d_Ly_makeEmpty_8 : decode b_Ly_makeEmpty 8 = .ok (.aload_n 0, 1) := by decide +kernel
theorem d_Ly_makeEmpty_9 : decode b_Ly_makeEmpty 9 = .ok (.getfield 23, 3) := by decide +kernel
theorem d_Ly_makeEmpty_12 : decode b_Ly_makeEmpty 12 = .ok (.iconst 0, 1) := by decide +kernel
theorem d_Ly_makeEmpty_13 : decode b_Ly_makeEmpty 13 = .ok (.invokestatic 32, 3) := by decide +kernel
theorem d_Ly_makeEmpty_16 : decode b_Ly_makeEmpty 16 = .ok (.aload_n 0, 1) := by decide +kernel
theorem d_Ly_makeEmpty_17 : decode b_Ly_makeEmpty 17 = .ok (.iconst 0, 1) := by decide +kernel
theorem d_Ly_makeEmpty_18 : decode b_Ly_makeEmpty 18 = .ok (.putfield 9, 3) := by decide +kernel
theorem d_Ly_makeEmpty_21 : decode b_Ly_makeEmpty 21 = .ok (.return_, 1) := by decide +kernel
theorem d_Ly_hasCell_0 : decode b_Ly_hasCell 0 = .ok (.iload_n 1, 1) := by decide +kernel
theorem d_Ly_hasCell_1 : decode b_Ly_hasCell 1 = .ok (.ifCond .lt 27, 3) := by decide +kernel
theorem d_Ly_hasCell_4 : decode b_Ly_hasCell 4 = .ok (.iload_n 1, 1) := by decide +kernel
theorem d_Ly_hasCell_5 : decode b_Ly_hasCell 5 = .ok (.aload_n 0, 1) := by decide +kernel
theorem d_Ly_hasCell_6 : decode b_Ly_hasCell 6 = .ok (.getfield 15, 3) := by decide +kernel
theorem d_Ly_hasCell_9 : decode b_Ly_hasCell 9 = .ok (.if_icmp .ge 19, 3) := by decide +kernel
theorem d_Ly_hasCell_12 : decode b_Ly_hasCell 12 = .ok (.iload_n 2, 1) := by decide +kernel
theorem d_Ly_hasCell_13 : decode b_Ly_hasCell 13 = .ok (.ifCond .lt 15, 3) := by decide +kernel
theorem d_Ly_hasCell_16 : decode b_Ly_hasCell 16 = .ok (.iload_n 2, 1) := by decide +kernel
theorem d_Ly_hasCell_17 : decode b_Ly_hasCell 17 = .ok (.aload_n 0, 1) := by decide +kernel
theorem d_Ly_hasCell_18 : decode b_Ly_hasCell 18 = .ok (.getfield 15, 3) := by decide +kernel
theorem d_Ly_hasCell_21 : decode b_Ly_hasCell 21 = .ok (.if_icmp .ge 7, 3) := by decide +kernel
theorem d_Ly_hasCell_24 : decode b_Ly_hasCell 24 = .ok (.iconst 1, 1) := by decide +kernel
theorem d_Ly_hasCell_25 : decode b_Ly_hasCell 25 = .ok (.goto 4, 3) := by decide +kernel
theorem d_Ly_hasCell_28 : decode b_Ly_hasCell 28 = .ok (.iconst 0, 1) := by decide +kernel
theorem d_Ly_hasCell_29 : decode b_Ly_hasCell 29 = .ok (.ireturn, 1) := by decide +kernel
theorem d_Ly_indexOf_0 : decode b_Ly_indexOf 0 = .ok (.aload_n 0, 1) := by decide +kernel
theorem d_Ly_indexOf_1 : decode b_Ly_indexOf 1 = .ok (.getfield 15, 3) := by decide +kernel
theorem d_Ly_indexOf_4 : decode b_Ly_indexOf 4 = .ok (.iload_n 2, 1) := by decide +kernel
theorem d_Ly_indexOf_5 : decode b_Ly_indexOf 5 = .ok (.imul, 1) := by decide +kernel
theorem d_Ly_indexOf_6 : decode b_Ly_indexOf 6 = .ok (.iload_n 1, 1) := by decide +kernel
theorem d_Ly_indexOf_7 : decode b_Ly_indexOf 7 = .ok (.iadd, 1) := by decide +kernel
theorem d_Ly_indexOf_8 : decode b_Ly_indexOf 8 = .ok (.ireturn, 1) := by decide +kernel
theorem d_Ly_cellAt_0 : decode b_Ly_cellAt 0 = .ok (.aload_n 0, 1) := by decide +kernel
theorem d_Ly_cellAt_1 : decode b_Ly_cellAt 1 = .ok (.iload_n 1, 1) := by decide +kernel
theorem d_Ly_cellAt_2 : decode b_Ly_cellAt 2 = .ok (.iload_n 2, 1) := by decide +kernel
theorem d_Ly_cellAt_3 : decode b_Ly_cellAt 3 = .ok (.invokevirtual 38, 3) := by decide +kernel
theorem d_Ly_cellAt_6 : decode b_Ly_cellAt 6 = .ok (.ifCond .eq 17, 3) := by decide +kernel
theorem d_Ly_cellAt_9 : decode b_Ly_cellAt 9 = .ok (.aload_n 0, 1) := by decide +kernel
theorem d_Ly_cellAt_10 : decode b_Ly_cellAt 10 = .ok (.getfield 19, 3) := by decide +kernel
theorem d_Ly_cellAt_13 : decode b_Ly_cellAt 13 = .ok (.aload_n 0, 1) := by decide +kernel
theorem d_Ly_cellAt_14 : decode b_Ly_cellAt 14 = .ok (.iload_n 1, 1) := by decide +kernel
theorem d_Ly_cellAt_15 : decode b_Ly_cellAt 15 = .ok (.iload_n 2, 1) := by decide +kernel
theorem d_Ly_cellAt_16 : decode b_Ly_cellAt 16 = .ok (.invokevirtual 42, 3) := by decide +kernel
theorem d_Ly_cellAt_19 : decode b_Ly_cellAt 19 = .ok (.iaload, 1) := by decide +kernel
theorem d_Ly_cellAt_20 : decode b_Ly_cellAt 20 = .ok (.goto 4, 3) := by decide +kernel
theorem d_Ly_cellAt_23 : decode b_Ly_cellAt 23 = .ok (.iconst (-1), 1) := by decide +kernel
theorem d_Ly_cellAt_24 : decode b_Ly_cellAt 24 = .ok (.ireturn, 1) := by decide +kernel
theorem d_Ly_coefficientAt_0 : decode b_Ly_coefficientAt 0 = .ok (.aload_n 0, 1) := by decide +kernel
theorem d_Ly_coefficientAt_1 : decode b_Ly_coefficientAt 1 = .ok (.iload_n 1, 1) := by decide +kernel
theorem d_Ly_coefficientAt_2 : decode b_Ly_coefficientAt 2 = .ok (.iload_n 2, 1) := by decide +kernel
theorem d_Ly_coefficientAt_3 : decode b_Ly_coefficientAt 3 = .ok (.invokevirtual 38, 3) := by decide +kernel
theorem d_Ly_coefficientAt_6 : decode b_Ly_coefficientAt 6 = .ok (.ifCond .eq 17, 3) := by decide +kernel
theorem d_Ly_coefficientAt_9 : decode b_Ly_coefficientAt 9 = .ok (.aload_n 0, 1) := by decide +kernel
theorem d_Ly_coefficientAt_10 : decode b_Ly_coefficientAt 10 = .ok (.getfield 23, 3) := by decide +kernel
theorem d_Ly_coefficientAt_13 : decode b_Ly_coefficientAt 13 = .ok (.aload_n 0, 1) := by decide +kernel
theorem d_Ly_coefficientAt_14 : decode b_Ly_coefficientAt 14 = .ok (.iload_n 1, 1) := by decide +kernel
theorem d_Ly_coefficientAt_15 : decode b_Ly_coefficientAt 15 = .ok (.iload_n 2, 1) := by decide +kernel
theorem d_Ly_coefficientAt_16 : decode b_Ly_coefficientAt 16 = .ok (.invokevirtual 42, 3) := by decide +kernel
theorem d_Ly_coefficientAt_19 : decode b_Ly_coefficientAt 19 = .ok (.iaload, 1) := by decide +kernel
theorem d_Ly_coefficientAt_20 : decode b_Ly_coefficientAt 20 = .ok (.goto 4, 3) := by decide +kernel
theorem d_Ly_coefficientAt_23 : decode b_Ly_coefficientAt 23 = .ok (.iconst 0, 1) := by decide +kernel
theorem d_Ly_coefficientAt_24 : decode b_Ly_coefficientAt 24 = .ok (.ireturn, 1) := by decide +kernel
theorem d_Ly_setRow_0 : decode b_Ly_setRow 0 = .ok (.iconst 0, 1) := by decide +kernel
theorem d_Ly_setRow_1 : decode b_Ly_setRow 1 = .ok (.istore 4, 2) := by decide +kernel
theorem d_Ly_setRow_3 : decode b_Ly_setRow 3 = .ok (.iload 4, 2) := by decide +kernel
theorem d_Ly_setRow_5 : decode b_Ly_setRow 5 = .ok (.aload_n 0, 1) := by decide +kernel
theorem d_Ly_setRow_6 : decode b_Ly_setRow 6 = .ok (.getfield 15, 3) := by decide +kernel
theorem d_Ly_setRow_9 : decode b_Ly_setRow 9 = .ok (.if_icmp .ge 33, 3) := by decide +kernel
theorem d_Ly_setRow_12 : decode b_Ly_setRow 12 = .ok (.aload_n 0, 1) := by decide +kernel
theorem d_Ly_setRow_13 : decode b_Ly_setRow 13 = .ok (.getfield 19, 3) := by decide +kernel
theorem d_Ly_setRow_16 : decode b_Ly_setRow 16 = .ok (.aload_n 0, 1) := by decide +kernel
theorem d_Ly_setRow_17 : decode b_Ly_setRow 17 = .ok (.iload 4, 2) := by decide +kernel
theorem d_Ly_setRow_19 : decode b_Ly_setRow 19 = .ok (.iload_n 1, 1) := by decide +kernel
theorem d_Ly_setRow_20 : decode b_Ly_setRow 20 = .ok (.invokevirtual 42, 3) := by decide +kernel
theorem d_Ly_setRow_23 : decode b_Ly_setRow 23 = .ok (.lload_n 2, 1) := by decide +kernel
theorem d_Ly_setRow_24 : decode b_Ly_setRow 24 = .ok (.bipush 8, 2) := by decide +kernel
theorem d_Ly_setRow_26 : decode b_Ly_setRow 26 = .ok (.iload 4, 2) := by decide +kernel
theorem d_Ly_setRow_28 : decode b_Ly_setRow 28 = .ok (.imul, 1) := by decide +kernel
theorem d_Ly_setRow_29 : decode b_Ly_setRow 29 = .ok (.lushr, 1) := by decide +kernel
theorem d_Ly_setRow_30 : decode b_Ly_setRow 30 = .ok (.l2i, 1) := by decide +kernel
theorem d_Ly_setRow_31 : decode b_Ly_setRow 31 = .ok (.sipush 255, 3) := by decide +kernel
theorem d_Ly_setRow_34 : decode b_Ly_setRow 34 = .ok (.iand, 1) := by decide +kernel
theorem d_Ly_setRow_35 : decode b_Ly_setRow 35 = .ok (.iastore, 1) := by decide +kernel
theorem d_Ly_setRow_36 : decode b_Ly_setRow 36 = .ok (.iinc 4 1, 3) := by decide +kernel
theorem d_Ly_setRow_39 : decode b_Ly_setRow 39 = .ok (.goto (-36), 3) := by decide +kernel
theorem d_Ly_setRow_42 : decode b_Ly_setRow 42 = .ok (.return_, 1) := by decide +kernel
theorem d_Ly_liftCells_0 : decode b_Ly_liftCells 0 = .ok (.aload_n 0, 1) := by decide +kernel
theorem d_Ly_liftCells_1 : decode b_Ly_liftCells 1 = .ok (.getfield 19, 3) := by decide +kernel
theorem d_Ly_liftCells_4 : decode b_Ly_liftCells 4 = .ok (.iconst 0, 1) := by decide +kernel
theorem d_Ly_liftCells_5 : decode b_Ly_liftCells 5 = .ok (.aload_n 0, 1) := by decide +kernel
theorem d_Ly_liftCells_6 : decode b_Ly_liftCells 6 = .ok (.getfield 23, 3) := by decide +kernel
theorem d_Ly_liftCells_9 : decode b_Ly_liftCells 9 = .ok (.iconst 0, 1) := by decide +kernel
theorem d_Ly_liftCells_10 : decode b_Ly_liftCells 10 = .ok (.aload_n 0, 1) := by decide +kernel
theorem d_Ly_liftCells_11 : decode b_Ly_liftCells 11 = .ok (.getfield 19, 3) := by decide +kernel
theorem d_Ly_liftCells_14 : decode b_Ly_liftCells 14 = .ok (.arraylength, 1) := by decide +kernel
theorem d_Ly_liftCells_15 : decode b_Ly_liftCells 15 = .ok (.invokestatic 46, 3) := by decide +kernel
theorem d_Ly_liftCells_18 : decode b_Ly_liftCells 18 = .ok (.aload_n 0, 1) := by decide +kernel
theorem d_Ly_liftCells_19 : decode b_Ly_liftCells 19 = .ok (.getfield 15, 3) := by decide +kernel
theorem d_Ly_liftCells_22 : decode b_Ly_liftCells 22 = .ok (.istore_n 1, 1) := by decide +kernel
theorem d_Ly_liftCells_23 : decode b_Ly_liftCells 23 = .ok (.iload_n 1, 1) := by decide +kernel
theorem d_Ly_liftCells_24 : decode b_Ly_liftCells 24 = .ok (.iconst 2, 1) := by decide +kernel
theorem d_Ly_liftCells_25 : decode b_Ly_liftCells 25 = .ok (.if_icmp .lt 58, 3) := by decide +kernel
theorem d_Ly_liftCells_28 : decode b_Ly_liftCells 28 = .ok (.iconst 0, 1) := by decide +kernel
theorem d_Ly_liftCells_29 : decode b_Ly_liftCells 29 = .ok (.istore_n 2, 1) := by decide +kernel
theorem d_Ly_liftCells_30 : decode b_Ly_liftCells 30 = .ok (.iload_n 2, 1) := by decide +kernel
theorem d_Ly_liftCells_31 : decode b_Ly_liftCells 31 = .ok (.iload_n 1, 1) := by decide +kernel
theorem d_Ly_liftCells_32 : decode b_Ly_liftCells 32 = .ok (.if_icmp .ge 21, 3) := by decide +kernel
theorem d_Ly_liftCells_35 : decode b_Ly_liftCells 35 = .ok (.aload_n 0, 1) := by decide +kernel
theorem d_Ly_liftCells_36 : decode b_Ly_liftCells 36 = .ok (.aload_n 0, 1) := by decide +kernel
theorem d_Ly_liftCells_37 : decode b_Ly_liftCells 37 = .ok (.getfield 15, 3) := by decide +kernel
theorem d_Ly_liftCells_40 : decode b_Ly_liftCells 40 = .ok (.iload_n 2, 1) := by decide +kernel
theorem d_Ly_liftCells_41 : decode b_Ly_liftCells 41 = .ok (.imul, 1) := by decide +kernel
theorem d_Ly_liftCells_42 : decode b_Ly_liftCells 42 = .ok (.iconst 1, 1) := by decide +kernel
theorem d_Ly_liftCells_43 : decode b_Ly_liftCells 43 = .ok (.iload_n 1, 1) := by decide +kernel
theorem d_Ly_liftCells_44 : decode b_Ly_liftCells 44 = .ok (.invokevirtual 52, 3) := by decide +kernel
theorem d_Ly_liftCells_47 : decode b_Ly_liftCells 47 = .ok (.iinc 2 1, 3) := by decide +kernel
theorem d_Ly_liftCells_50 : decode b_Ly_liftCells 50 = .ok (.goto (-20), 3) := by decide +kernel
theorem d_Ly_liftCells_53 : decode b_Ly_liftCells 53 = .ok (.iconst 0, 1) := by decide +kernel
theorem d_Ly_liftCells_54 : decode b_Ly_liftCells 54 = .ok (.istore_n 2, 1) := by decide +kernel
theorem d_Ly_liftCells_55 : decode b_Ly_liftCells 55 = .ok (.iload_n 2, 1) := by decide +kernel
theorem d_Ly_liftCells_56 : decode b_Ly_liftCells 56 = .ok (.iload_n 1, 1) := by decide +kernel
theorem d_Ly_liftCells_57 : decode b_Ly_liftCells 57 = .ok (.if_icmp .ge 19, 3) := by decide +kernel
theorem d_Ly_liftCells_60 : decode b_Ly_liftCells 60 = .ok (.aload_n 0, 1) := by decide +kernel
theorem d_Ly_liftCells_61 : decode b_Ly_liftCells 61 = .ok (.iload_n 2, 1) := by decide +kernel
theorem d_Ly_liftCells_62 : decode b_Ly_liftCells 62 = .ok (.aload_n 0, 1) := by decide +kernel
theorem d_Ly_liftCells_63 : decode b_Ly_liftCells 63 = .ok (.getfield 15, 3) := by decide +kernel
theorem d_Ly_liftCells_66 : decode b_Ly_liftCells 66 = .ok (.iload_n 1, 1) := by decide +kernel
theorem d_Ly_liftCells_67 : decode b_Ly_liftCells 67 = .ok (.invokevirtual 52, 3) := by decide +kernel
theorem d_Ly_liftCells_70 : decode b_Ly_liftCells 70 = .ok (.iinc 2 1, 3) := by decide +kernel
theorem d_Ly_liftCells_73 : decode b_Ly_liftCells 73 = .ok (.goto (-18), 3) := by decide +kernel
theorem d_Ly_liftCells_76 : decode b_Ly_liftCells 76 = .ok (.iload_n 1, 1) := by decide +kernel
theorem d_Ly_liftCells_77 : decode b_Ly_liftCells 77 = .ok (.iconst 2, 1) := by decide +kernel
theorem d_Ly_liftCells_78 : decode b_Ly_liftCells 78 = .ok (.idiv, 1) := by decide +kernel
theorem d_Ly_liftCells_79 : decode b_Ly_liftCells 79 = .ok (.istore_n 1, 1) := by decide +kernel
theorem d_Ly_liftCells_80 : decode b_Ly_liftCells 80 = .ok (.goto (-57), 3) := by decide +kernel
theorem d_Ly_liftCells_83 : decode b_Ly_liftCells 83 = .ok (.return_, 1) := by decide +kernel
theorem d_Ly_liftLine_0 : decode b_Ly_liftLine 0 = .ok (.iload_n 3, 1) := by decide +kernel
theorem d_Ly_liftLine_1 : decode b_Ly_liftLine 1 = .ok (.iconst 2, 1) := by decide +kernel
theorem d_Ly_liftLine_2 : decode b_Ly_liftLine 2 = .ok (.idiv, 1) := by decide +kernel
theorem d_Ly_liftLine_3 : decode b_Ly_liftLine 3 = .ok (.istore 4, 2) := by decide +kernel
theorem d_Ly_liftLine_5 : decode b_Ly_liftLine 5 = .ok (.iconst 0, 1) := by decide +kernel
theorem d_Ly_liftLine_6 : decode b_Ly_liftLine 6 = .ok (.istore 5, 2) := by decide +kernel
theorem d_Ly_liftLine_8 : decode b_Ly_liftLine 8 = .ok (.iload 5, 2) := by decide +kernel
theorem d_Ly_liftLine_10 : decode b_Ly_liftLine 10 = .ok (.iload_n 3, 1) := by decide +kernel
theorem d_Ly_liftLine_11 : decode b_Ly_liftLine 11 = .ok (.if_icmp .ge 27, 3) := by decide +kernel
theorem d_Ly_liftLine_14 : decode b_Ly_liftLine 14 = .ok (.aload_n 0, 1) := by decide +kernel
theorem d_Ly_liftLine_15 : decode b_Ly_liftLine 15 = .ok (.getfield 29, 3) := by decide +kernel
theorem d_Ly_liftLine_18 : decode b_Ly_liftLine 18 = .ok (.iload 5, 2) := by decide +kernel
theorem d_Ly_liftLine_20 : decode b_Ly_liftLine 20 = .ok (.aload_n 0, 1) := by decide +kernel
theorem d_Ly_liftLine_21 : decode b_Ly_liftLine 21 = .ok (.getfield 23, 3) := by decide +kernel
theorem d_Ly_liftLine_24 : decode b_Ly_liftLine 24 = .ok (.iload_n 1, 1) := by decide +kernel
theorem d_Ly_liftLine_25 : decode b_Ly_liftLine 25 = .ok (.iload 5, 2) := by decide +kernel
theorem d_Ly_liftLine_27 : decode b_Ly_liftLine 27 = .ok (.iload_n 2, 1) := by decide +kernel
theorem d_Ly_liftLine_28 : decode b_Ly_liftLine 28 = .ok (.imul, 1) := by decide +kernel
theorem d_Ly_liftLine_29 : decode b_Ly_liftLine 29 = .ok (.iadd, 1) := by decide +kernel
theorem d_Ly_liftLine_30 : decode b_Ly_liftLine 30 = .ok (.iaload, 1) := by decide +kernel
theorem d_Ly_liftLine_31 : decode b_Ly_liftLine 31 = .ok (.iastore, 1) := by decide +kernel
theorem d_Ly_liftLine_32 : decode b_Ly_liftLine 32 = .ok (.iinc 5 1, 3) := by decide +kernel
theorem d_Ly_liftLine_35 : decode b_Ly_liftLine 35 = .ok (.goto (-27), 3) := by decide +kernel
theorem d_Ly_liftLine_38 : decode b_Ly_liftLine 38 = .ok (.iconst 0, 1) := by decide +kernel
theorem d_Ly_liftLine_39 : decode b_Ly_liftLine 39 = .ok (.istore 5, 2) := by decide +kernel
theorem d_Ly_liftLine_41 : decode b_Ly_liftLine 41 = .ok (.iconst 0, 1) := by decide +kernel
theorem d_Ly_liftLine_42 : decode b_Ly_liftLine 42 = .ok (.istore 6, 2) := by decide +kernel
theorem d_Ly_liftLine_44 : decode b_Ly_liftLine 44 = .ok (.iload 6, 2) := by decide +kernel
theorem d_Ly_liftLine_46 : decode b_Ly_liftLine 46 = .ok (.iload 4, 2) := by decide +kernel
theorem d_Ly_liftLine_48 : decode b_Ly_liftLine 48 = .ok (.if_icmp .ge 125, 3) := by decide +kernel
theorem d_Ly_liftLine_51 : decode b_Ly_liftLine 51 = .ok (.aload_n 0, 1) := by decide +kernel
theorem d_Ly_liftLine_52 : decode b_Ly_liftLine 52 = .ok (.getfield 29, 3) := by decide +kernel
theorem d_Ly_liftLine_55 : decode b_Ly_liftLine 55 = .ok (.iconst 2, 1) := by decide +kernel
theorem d_Ly_liftLine_56 : decode b_Ly_liftLine 56 = .ok (.iload 6, 2) := by decide +kernel
theorem d_Ly_liftLine_58 : decode b_Ly_liftLine 58 = .ok (.imul, 1) := by decide +kernel
theorem d_Ly_liftLine_59 : decode b_Ly_liftLine 59 = .ok (.iconst 2, 1) := by decide +kernel
theorem d_Ly_liftLine_60 : decode b_Ly_liftLine 60 = .ok (.iadd, 1) := by decide +kernel
theorem d_Ly_liftLine_61 : decode b_Ly_liftLine 61 = .ok (.iload_n 3, 1) := by decide +kernel
theorem d_Ly_liftLine_62 : decode b_Ly_liftLine 62 = .ok (.if_icmp .ge 12, 3) := by decide +kernel
theorem d_Ly_liftLine_65 : decode b_Ly_liftLine 65 = .ok (.iconst 2, 1) := by decide +kernel
theorem d_Ly_liftLine_66 : decode b_Ly_liftLine 66 = .ok (.iload 6, 2) := by decide +kernel
theorem d_Ly_liftLine_68 : decode b_Ly_liftLine 68 = .ok (.imul, 1) := by decide +kernel
theorem d_Ly_liftLine_69 : decode b_Ly_liftLine 69 = .ok (.iconst 2, 1) := by decide +kernel
theorem d_Ly_liftLine_70 : decode b_Ly_liftLine 70 = .ok (.iadd, 1) := by decide +kernel
theorem d_Ly_liftLine_71 : decode b_Ly_liftLine 71 = .ok (.goto 6, 3) := by decide +kernel
theorem d_Ly_liftLine_74 : decode b_Ly_liftLine 74 = .ok (.iload_n 3, 1) := by decide +kernel
theorem d_Ly_liftLine_75 : decode b_Ly_liftLine 75 = .ok (.iconst 2, 1) := by decide +kernel
theorem d_Ly_liftLine_76 : decode b_Ly_liftLine 76 = .ok (.isub, 1) := by decide +kernel
theorem d_Ly_liftLine_77 : decode b_Ly_liftLine 77 = .ok (.iaload, 1) := by decide +kernel
theorem d_Ly_liftLine_78 : decode b_Ly_liftLine 78 = .ok (.istore 7, 2) := by decide +kernel
theorem d_Ly_liftLine_80 : decode b_Ly_liftLine 80 = .ok (.aload_n 0, 1) := by decide +kernel
theorem d_Ly_liftLine_81 : decode b_Ly_liftLine 81 = .ok (.getfield 29, 3) := by decide +kernel
theorem d_Ly_liftLine_84 : decode b_Ly_liftLine 84 = .ok (.iconst 2, 1) := by decide +kernel
theorem d_Ly_liftLine_85 : decode b_Ly_liftLine 85 = .ok (.iload 6, 2) := by decide +kernel
theorem d_Ly_liftLine_87 : decode b_Ly_liftLine 87 = .ok (.imul, 1) := by decide +kernel
theorem d_Ly_liftLine_88 : decode b_Ly_liftLine 88 = .ok (.iconst 1, 1) := by decide +kernel
theorem d_Ly_liftLine_89 : decode b_Ly_liftLine 89 = .ok (.iadd, 1) := by decide +kernel
theorem d_Ly_liftLine_90 : decode b_Ly_liftLine 90 = .ok (.iaload, 1) := by decide +kernel
theorem d_Ly_liftLine_91 : decode b_Ly_liftLine 91 = .ok (.aload_n 0, 1) := by decide +kernel
theorem d_Ly_liftLine_92 : decode b_Ly_liftLine 92 = .ok (.getfield 29, 3) := by decide +kernel
theorem d_Ly_liftLine_95 : decode b_Ly_liftLine 95 = .ok (.iconst 2, 1) := by decide +kernel
theorem d_Ly_liftLine_96 : decode b_Ly_liftLine 96 = .ok (.iload 6, 2) := by decide +kernel
theorem d_Ly_liftLine_98 : decode b_Ly_liftLine 98 = .ok (.imul, 1) := by decide +kernel
theorem d_Ly_liftLine_99 : decode b_Ly_liftLine 99 = .ok (.iaload, 1) := by decide +kernel
theorem d_Ly_liftLine_100 : decode b_Ly_liftLine 100 = .ok (.iload 7, 2) := by decide +kernel
theorem d_Ly_liftLine_102 : decode b_Ly_liftLine 102 = .ok (.iadd, 1) := by decide +kernel
theorem d_Ly_liftLine_103 : decode b_Ly_liftLine 103 = .ok (.iconst 1, 1) := by decide +kernel
theorem d_Ly_liftLine_104 : decode b_Ly_liftLine 104 = .ok (.ishr, 1) := by decide +kernel
theorem d_Ly_liftLine_105 : decode b_Ly_liftLine 105 = .ok (.isub, 1) := by decide +kernel
theorem d_Ly_liftLine_106 : decode b_Ly_liftLine 106 = .ok (.istore 8, 2) := by decide +kernel
theorem d_Ly_liftLine_108 : decode b_Ly_liftLine 108 = .ok (.iload 6, 2) := by decide +kernel
theorem d_Ly_liftLine_110 : decode b_Ly_liftLine 110 = .ok (.ifCond .ne 7, 3) := by decide +kernel
theorem d_Ly_liftLine_113 : decode b_Ly_liftLine 113 = .ok (.iload 8, 2) := by decide +kernel
theorem d_Ly_liftLine_115 : decode b_Ly_liftLine 115 = .ok (.istore 5, 2) := by decide +kernel
theorem d_Ly_liftLine_117 : decode b_Ly_liftLine 117 = .ok (.aload_n 0, 1) := by decide +kernel
theorem d_Ly_liftLine_118 : decode b_Ly_liftLine 118 = .ok (.getfield 23, 3) := by decide +kernel
theorem d_Ly_liftLine_121 : decode b_Ly_liftLine 121 = .ok (.iload_n 1, 1) := by decide +kernel
theorem d_Ly_liftLine_122 : decode b_Ly_liftLine 122 = .ok (.iload 6, 2) := by decide +kernel
theorem d_Ly_liftLine_124 : decode b_Ly_liftLine 124 = .ok (.iload_n 2, 1) := by decide +kernel
theorem d_Ly_liftLine_125 : decode b_Ly_liftLine 125 = .ok (.imul, 1) := by decide +kernel
theorem d_Ly_liftLine_126 : decode b_Ly_liftLine 126 = .ok (.iadd, 1) := by decide +kernel
theorem d_Ly_liftLine_127 : decode b_Ly_liftLine 127 = .ok (.aload_n 0, 1) := by decide +kernel
theorem d_Ly_liftLine_128 : decode b_Ly_liftLine 128 = .ok (.getfield 29, 3) := by decide +kernel
theorem d_Ly_liftLine_131 : decode b_Ly_liftLine 131 = .ok (.iconst 2, 1) := by decide +kernel
theorem d_Ly_liftLine_132 : decode b_Ly_liftLine 132 = .ok (.iload 6, 2) := by decide +kernel
theorem d_Ly_liftLine_134 : decode b_Ly_liftLine 134 = .ok (.imul, 1) := by decide +kernel
theorem d_Ly_liftLine_135 : decode b_Ly_liftLine 135 = .ok (.iaload, 1) := by decide +kernel
theorem d_Ly_liftLine_136 : decode b_Ly_liftLine 136 = .ok (.iload 5, 2) := by decide +kernel
theorem d_Ly_liftLine_138 : decode b_Ly_liftLine 138 = .ok (.iload 8, 2) := by decide +kernel
theorem d_Ly_liftLine_140 : decode b_Ly_liftLine 140 = .ok (.iadd, 1) := by decide +kernel
theorem d_Ly_liftLine_141 : decode b_Ly_liftLine 141 = .ok (.iconst 2, 1) := by decide +kernel
theorem d_Ly_liftLine_142 : decode b_Ly_liftLine 142 = .ok (.iadd, 1) := by decide +kernel
theorem d_Ly_liftLine_143 : decode b_Ly_liftLine 143 = .ok (.iconst 2, 1) := by decide +kernel
theorem d_Ly_liftLine_144 : decode b_Ly_liftLine 144 = .ok (.ishr, 1) := by decide +kernel
theorem d_Ly_liftLine_145 : decode b_Ly_liftLine 145 = .ok (.iadd, 1) := by decide +kernel
theorem d_Ly_liftLine_146 : decode b_Ly_liftLine 146 = .ok (.iastore, 1) := by decide +kernel
theorem d_Ly_liftLine_147 : decode b_Ly_liftLine 147 = .ok (.aload_n 0, 1) := by decide +kernel
theorem d_Ly_liftLine_148 : decode b_Ly_liftLine 148 = .ok (.getfield 23, 3) := by decide +kernel
theorem d_Ly_liftLine_151 : decode b_Ly_liftLine 151 = .ok (.iload_n 1, 1) := by decide +kernel
theorem d_Ly_liftLine_152 : decode b_Ly_liftLine 152 = .ok (.iload 4, 2) := by decide +kernel
theorem d_Ly_liftLine_154 : decode b_Ly_liftLine 154 = .ok (.iload 6, 2) := by decide +kernel
theorem d_Ly_liftLine_156 : decode b_Ly_liftLine 156 = .ok (.iadd, 1) := by decide +kernel
theorem d_Ly_liftLine_157 : decode b_Ly_liftLine 157 = .ok (.iload_n 2, 1) := by decide +kernel
theorem d_Ly_liftLine_158 : decode b_Ly_liftLine 158 = .ok (.imul, 1) := by decide +kernel
theorem d_Ly_liftLine_159 : decode b_Ly_liftLine 159 = .ok (.iadd, 1) := by decide +kernel
theorem d_Ly_liftLine_160 : decode b_Ly_liftLine 160 = .ok (.iload 8, 2) := by decide +kernel
theorem d_Ly_liftLine_162 : decode b_Ly_liftLine 162 = .ok (.iastore, 1) := by decide +kernel
theorem d_Ly_liftLine_163 : decode b_Ly_liftLine 163 = .ok (.iload 8, 2) := by decide +kernel
theorem d_Ly_liftLine_165 : decode b_Ly_liftLine 165 = .ok (.istore 5, 2) := by decide +kernel
theorem d_Ly_liftLine_167 : decode b_Ly_liftLine 167 = .ok (.iinc 6 1, 3) := by decide +kernel
theorem d_Ly_liftLine_170 : decode b_Ly_liftLine 170 = .ok (.goto (-126), 3) := by decide +kernel
theorem d_Ly_liftLine_173 : decode b_Ly_liftLine 173 = .ok (.return_, 1) := by decide +kernel
end
section
theorem d_Ly_undoCoefficients_0 : decode b_Ly_undoCoefficients 0 = .ok (.aload_n 0, 1) := by decide +kernel
theorem d_Ly_undoCoefficients_1 : decode b_Ly_undoCoefficients 1 = .ok (.getfield 23, 3) := by decide +kernel
theorem d_Ly_undoCoefficients_4 : decode b_Ly_undoCoefficients 4 = .ok (.iconst 0, 1) := by decide +kernel
theorem d_Ly_undoCoefficients_5 : decode b_Ly_undoCoefficients 5 = .ok (.aload_n 0, 1) := by decide +kernel
theorem d_Ly_undoCoefficients_6 : decode b_Ly_undoCoefficients 6 = .ok (.getfield 19, 3) := by decide +kernel
theorem d_Ly_undoCoefficients_9 : decode b_Ly_undoCoefficients 9 = .ok (.iconst 0, 1) := by decide +kernel
theorem d_Ly_undoCoefficients_10 : decode b_Ly_undoCoefficients 10 = .ok (.aload_n 0, 1) := by decide +kernel
theorem d_Ly_undoCoefficients_11 : decode b_Ly_undoCoefficients 11 = .ok (.getfield 19, 3) := by decide +kernel
theorem d_Ly_undoCoefficients_14 : decode b_Ly_undoCoefficients 14 = .ok (.arraylength, 1) := by decide +kernel
theorem d_Ly_undoCoefficients_15 : decode b_Ly_undoCoefficients 15 = .ok (.invokestatic 46, 3) := by decide +kernel
theorem d_Ly_undoCoefficients_18 : decode b_Ly_undoCoefficients 18 = .ok (.iconst 2, 1) := by decide +kernel
theorem d_Ly_undoCoefficients_19 : decode b_Ly_undoCoefficients 19 = .ok (.istore_n 1, 1) := by decide +kernel
theorem d_Ly_undoCoefficients_20 : decode b_Ly_undoCoefficients 20 = .ok (.iload_n 1, 1) := by decide +kernel
theorem d_Ly_undoCoefficients_21 : decode b_Ly_undoCoefficients 21 = .ok (.aload_n 0, 1) := by decide +kernel
theorem d_Ly_undoCoefficients_22 : decode b_Ly_undoCoefficients 22 = .ok (.getfield 15, 3) := by decide +kernel
theorem d_Ly_undoCoefficients_25 : decode b_Ly_undoCoefficients 25 = .ok (.if_icmp .gt 58, 3) := by decide +kernel
theorem d_Ly_undoCoefficients_28 : decode b_Ly_undoCoefficients 28 = .ok (.iconst 0, 1) := by decide +kernel
theorem d_Ly_undoCoefficients_29 : decode b_Ly_undoCoefficients 29 = .ok (.istore_n 2, 1) := by decide +kernel
theorem d_Ly_undoCoefficients_30 : decode b_Ly_undoCoefficients 30 = .ok (.iload_n 2, 1) := by decide +kernel
theorem d_Ly_undoCoefficients_31 : decode b_Ly_undoCoefficients 31 = .ok (.iload_n 1, 1) := by decide +kernel
theorem d_Ly_undoCoefficients_32 : decode b_Ly_undoCoefficients 32 = .ok (.if_icmp .ge 19, 3) := by decide +kernel
theorem d_Ly_undoCoefficients_35 : decode b_Ly_undoCoefficients 35 = .ok (.aload_n 0, 1) := by decide +kernel
theorem d_Ly_undoCoefficients_36 : decode b_Ly_undoCoefficients 36 = .ok (.iload_n 2, 1) := by decide +kernel
theorem d_Ly_undoCoefficients_37 : decode b_Ly_undoCoefficients 37 = .ok (.aload_n 0, 1) := by decide +kernel
theorem d_Ly_undoCoefficients_38 : decode b_Ly_undoCoefficients 38 = .ok (.getfield 15, 3) := by decide +kernel
theorem d_Ly_undoCoefficients_41 : decode b_Ly_undoCoefficients 41 = .ok (.iload_n 1, 1) := by decide +kernel
theorem d_Ly_undoCoefficients_42 : decode b_Ly_undoCoefficients 42 = .ok (.invokevirtual 56, 3) := by decide +kernel
theorem d_Ly_undoCoefficients_45 : decode b_Ly_undoCoefficients 45 = .ok (.iinc 2 1, 3) := by decide +kernel
theorem d_Ly_undoCoefficients_48 : decode b_Ly_undoCoefficients 48 = .ok (.goto (-18), 3) := by decide +kernel
theorem d_Ly_undoCoefficients_51 : decode b_Ly_undoCoefficients 51 = .ok (.iconst 0, 1) := by decide +kernel
theorem d_Ly_undoCoefficients_52 : decode b_Ly_undoCoefficients 52 = .ok (.istore_n 2, 1) := by decide +kernel
theorem d_Ly_undoCoefficients_53 : decode b_Ly_undoCoefficients 53 = .ok (.iload_n 2, 1) := by decide +kernel
theorem d_Ly_undoCoefficients_54 : decode b_Ly_undoCoefficients 54 = .ok (.iload_n 1, 1) := by decide +kernel
theorem d_Ly_undoCoefficients_55 : decode b_Ly_undoCoefficients 55 = .ok (.if_icmp .ge 21, 3) := by decide +kernel
theorem d_Ly_undoCoefficients_58 : decode b_Ly_undoCoefficients 58 = .ok (.aload_n 0, 1) := by decide +kernel
theorem d_Ly_undoCoefficients_59 : decode b_Ly_undoCoefficients 59 = .ok (.aload_n 0, 1) := by decide +kernel
theorem d_Ly_undoCoefficients_60 : decode b_Ly_undoCoefficients 60 = .ok (.getfield 15, 3) := by decide +kernel
theorem d_Ly_undoCoefficients_63 : decode b_Ly_undoCoefficients 63 = .ok (.iload_n 2, 1) := by decide +kernel
theorem d_Ly_undoCoefficients_64 : decode b_Ly_undoCoefficients 64 = .ok (.imul, 1) := by decide +kernel
theorem d_Ly_undoCoefficients_65 : decode b_Ly_undoCoefficients 65 = .ok (.iconst 1, 1) := by decide +kernel
theorem d_Ly_undoCoefficients_66 : decode b_Ly_undoCoefficients 66 = .ok (.iload_n 1, 1) := by decide +kernel
theorem d_Ly_undoCoefficients_67 : decode b_Ly_undoCoefficients 67 = .ok (.invokevirtual 56, 3) := by decide +kernel
theorem d_Ly_undoCoefficients_70 : decode b_Ly_undoCoefficients 70 = .ok (.iinc 2 1, 3) := by decide +kernel
theorem d_Ly_undoCoefficients_73 : decode b_Ly_undoCoefficients 73 = .ok (.goto (-20), 3) := by decide +kernel
theorem d_Ly_undoCoefficients_76 : decode b_Ly_undoCoefficients 76 = .ok (.iload_n 1, 1) := by decide +kernel
theorem d_Ly_undoCoefficients_77 : decode b_Ly_undoCoefficients 77 = .ok (.iconst 2, 1) := by decide +kernel
theorem d_Ly_undoCoefficients_78 : decode b_Ly_undoCoefficients 78 = .ok (.imul, 1) := by decide +kernel
theorem d_Ly_undoCoefficients_79 : decode b_Ly_undoCoefficients 79 = .ok (.istore_n 1, 1) := by decide +kernel
theorem d_Ly_undoCoefficients_80 : decode b_Ly_undoCoefficients 80 = .ok (.goto (-60), 3) := by decide +kernel
theorem d_Ly_undoCoefficients_83 : decode b_Ly_undoCoefficients 83 = .ok (.iconst 0, 1) := by decide +kernel
theorem d_Ly_undoCoefficients_84 : decode b_Ly_undoCoefficients 84 = .ok (.istore_n 1, 1) := by decide +kernel
theorem d_Ly_undoCoefficients_85 : decode b_Ly_undoCoefficients 85 = .ok (.iload_n 1, 1) := by decide +kernel
theorem d_Ly_undoCoefficients_86 : decode b_Ly_undoCoefficients 86 = .ok (.aload_n 0, 1) := by decide +kernel
theorem d_Ly_undoCoefficients_87 : decode b_Ly_undoCoefficients 87 = .ok (.getfield 19, 3) := by decide +kernel
theorem d_Ly_undoCoefficients_90 : decode b_Ly_undoCoefficients 90 = .ok (.arraylength, 1) := by decide +kernel
theorem d_Ly_undoCoefficients_91 : decode b_Ly_undoCoefficients 91 = .ok (.if_icmp .ge 30, 3) := by decide +kernel
theorem d_Ly_undoCoefficients_94 : decode b_Ly_undoCoefficients 94 = .ok (.aload_n 0, 1) := by decide +kernel
theorem d_Ly_undoCoefficients_95 : decode b_Ly_undoCoefficients 95 = .ok (.getfield 19, 3) := by decide +kernel
theorem d_Ly_undoCoefficients_98 : decode b_Ly_undoCoefficients 98 = .ok (.iload_n 1, 1) := by decide +kernel
theorem d_Ly_undoCoefficients_99 : decode b_Ly_undoCoefficients 99 = .ok (.iconst 0, 1) := by decide +kernel
theorem d_Ly_undoCoefficients_100 : decode b_Ly_undoCoefficients 100 = .ok (.bipush 63, 2) := by decide +kernel
theorem d_Ly_undoCoefficients_102 : decode b_Ly_undoCoefficients 102 = .ok (.aload_n 0, 1) := by decide +kernel
theorem d_Ly_undoCoefficients_103 : decode b_Ly_undoCoefficients 103 = .ok (.getfield 19, 3) := by decide +kernel
theorem d_Ly_undoCoefficients_106 : decode b_Ly_undoCoefficients 106 = .ok (.iload_n 1, 1) := by decide +kernel
theorem d_Ly_undoCoefficients_107 : decode b_Ly_undoCoefficients 107 = .ok (.iaload, 1) := by decide +kernel
theorem d_Ly_undoCoefficients_108 : decode b_Ly_undoCoefficients 108 = .ok (.invokestatic 59, 3) := by decide +kernel
theorem d_Ly_undoCoefficients_111 : decode b_Ly_undoCoefficients 111 = .ok (.invokestatic 64, 3) := by decide +kernel
theorem d_Ly_undoCoefficients_114 : decode b_Ly_undoCoefficients 114 = .ok (.iastore, 1) := by decide +kernel
theorem d_Ly_undoCoefficients_115 : decode b_Ly_undoCoefficients 115 = .ok (.iinc 1 1, 3) := by decide +kernel
theorem d_Ly_undoCoefficients_118 : decode b_Ly_undoCoefficients 118 = .ok (.goto (-33), 3) := by decide +kernel
theorem d_Ly_undoCoefficients_121 : decode b_Ly_undoCoefficients 121 = .ok (.return_, 1) := by decide +kernel
theorem d_Ly_undoLine_0 : decode b_Ly_undoLine 0 = .ok (.iload_n 3, 1) := by decide +kernel
theorem d_Ly_undoLine_1 : decode b_Ly_undoLine 1 = .ok (.iconst 2, 1) := by decide +kernel
theorem d_Ly_undoLine_2 : decode b_Ly_undoLine 2 = .ok (.idiv, 1) := by decide +kernel
theorem d_Ly_undoLine_3 : decode b_Ly_undoLine 3 = .ok (.istore 4, 2) := by decide +kernel
theorem d_Ly_undoLine_5 : decode b_Ly_undoLine 5 = .ok (.iconst 0, 1) := by decide +kernel
theorem d_Ly_undoLine_6 : decode b_Ly_undoLine 6 = .ok (.istore 5, 2) := by decide +kernel
theorem d_Ly_undoLine_8 : decode b_Ly_undoLine 8 = .ok (.iload 5, 2) := by decide +kernel
theorem d_Ly_undoLine_10 : decode b_Ly_undoLine 10 = .ok (.iload_n 3, 1) := by decide +kernel
theorem d_Ly_undoLine_11 : decode b_Ly_undoLine 11 = .ok (.if_icmp .ge 27, 3) := by decide +kernel
theorem d_Ly_undoLine_14 : decode b_Ly_undoLine 14 = .ok (.aload_n 0, 1) := by decide +kernel
theorem d_Ly_undoLine_15 : decode b_Ly_undoLine 15 = .ok (.getfield 29, 3) := by decide +kernel
theorem d_Ly_undoLine_18 : decode b_Ly_undoLine 18 = .ok (.iload 5, 2) := by decide +kernel
theorem d_Ly_undoLine_20 : decode b_Ly_undoLine 20 = .ok (.aload_n 0, 1) := by decide +kernel
theorem d_Ly_undoLine_21 : decode b_Ly_undoLine 21 = .ok (.getfield 19, 3) := by decide +kernel
theorem d_Ly_undoLine_24 : decode b_Ly_undoLine 24 = .ok (.iload_n 1, 1) := by decide +kernel
theorem d_Ly_undoLine_25 : decode b_Ly_undoLine 25 = .ok (.iload 5, 2) := by decide +kernel
theorem d_Ly_undoLine_27 : decode b_Ly_undoLine 27 = .ok (.iload_n 2, 1) := by decide +kernel
theorem d_Ly_undoLine_28 : decode b_Ly_undoLine 28 = .ok (.imul, 1) := by decide +kernel
theorem d_Ly_undoLine_29 : decode b_Ly_undoLine 29 = .ok (.iadd, 1) := by decide +kernel
theorem d_Ly_undoLine_30 : decode b_Ly_undoLine 30 = .ok (.iaload, 1) := by decide +kernel
theorem d_Ly_undoLine_31 : decode b_Ly_undoLine 31 = .ok (.iastore, 1) := by decide +kernel
theorem d_Ly_undoLine_32 : decode b_Ly_undoLine 32 = .ok (.iinc 5 1, 3) := by decide +kernel
theorem d_Ly_undoLine_35 : decode b_Ly_undoLine 35 = .ok (.goto (-27), 3) := by decide +kernel
theorem d_Ly_undoLine_38 : decode b_Ly_undoLine 38 = .ok (.iconst 0, 1) := by decide +kernel
theorem d_Ly_undoLine_39 : decode b_Ly_undoLine 39 = .ok (.istore 5, 2) := by decide +kernel
theorem d_Ly_undoLine_41 : decode b_Ly_undoLine 41 = .ok (.iload 5, 2) := by decide +kernel
theorem d_Ly_undoLine_43 : decode b_Ly_undoLine 43 = .ok (.iload 4, 2) := by decide +kernel
theorem d_Ly_undoLine_45 : decode b_Ly_undoLine 45 = .ok (.if_icmp .ge 71, 3) := by decide +kernel
theorem d_Ly_undoLine_48 : decode b_Ly_undoLine 48 = .ok (.aload_n 0, 1) := by decide +kernel
theorem d_Ly_undoLine_49 : decode b_Ly_undoLine 49 = .ok (.getfield 29, 3) := by decide +kernel
theorem d_Ly_undoLine_52 : decode b_Ly_undoLine 52 = .ok (.iload 5, 2) := by decide +kernel
theorem d_Ly_undoLine_54 : decode b_Ly_undoLine 54 = .ok (.ifCond .ne 8, 3) := by decide +kernel
theorem d_Ly_undoLine_57 : decode b_Ly_undoLine 57 = .ok (.iload 4, 2) := by decide +kernel
theorem d_Ly_undoLine_59 : decode b_Ly_undoLine 59 = .ok (.goto 10, 3) := by decide +kernel
theorem d_Ly_undoLine_62 : decode b_Ly_undoLine 62 = .ok (.iload 4, 2) := by decide +kernel
theorem d_Ly_undoLine_64 : decode b_Ly_undoLine 64 = .ok (.iload 5, 2) := by decide +kernel
theorem d_Ly_undoLine_66 : decode b_Ly_undoLine 66 = .ok (.iadd, 1) := by decide +kernel
theorem d_Ly_undoLine_67 : decode b_Ly_undoLine 67 = .ok (.iconst 1, 1) := by decide +kernel
theorem d_Ly_undoLine_68 : decode b_Ly_undoLine 68 = .ok (.isub, 1) := by decide +kernel
theorem d_Ly_undoLine_69 : decode b_Ly_undoLine 69 = .ok (.iaload, 1) := by decide +kernel
theorem d_Ly_undoLine_70 : decode b_Ly_undoLine 70 = .ok (.istore 6, 2) := by decide +kernel
theorem d_Ly_undoLine_72 : decode b_Ly_undoLine 72 = .ok (.aload_n 0, 1) := by decide +kernel
theorem d_Ly_undoLine_73 : decode b_Ly_undoLine 73 = .ok (.getfield 19, 3) := by decide +kernel
theorem d_Ly_undoLine_76 : decode b_Ly_undoLine 76 = .ok (.iload_n 1, 1) := by decide +kernel
theorem d_Ly_undoLine_77 : decode b_Ly_undoLine 77 = .ok (.iconst 2, 1) := by decide +kernel
theorem d_Ly_undoLine_78 : decode b_Ly_undoLine 78 = .ok (.iload 5, 2) := by decide +kernel
theorem d_Ly_undoLine_80 : decode b_Ly_undoLine 80 = .ok (.imul, 1) := by decide +kernel
theorem d_Ly_undoLine_81 : decode b_Ly_undoLine 81 = .ok (.iload_n 2, 1) := by decide +kernel
theorem d_Ly_undoLine_82 : decode b_Ly_undoLine 82 = .ok (.imul, 1) := by decide +kernel
theorem d_Ly_undoLine_83 : decode b_Ly_undoLine 83 = .ok (.iadd, 1) := by decide +kernel
theorem d_Ly_undoLine_84 : decode b_Ly_undoLine 84 = .ok (.aload_n 0, 1) := by decide +kernel
theorem d_Ly_undoLine_85 : decode b_Ly_undoLine 85 = .ok (.getfield 29, 3) := by decide +kernel
theorem d_Ly_undoLine_88 : decode b_Ly_undoLine 88 = .ok (.iload 5, 2) := by decide +kernel
theorem d_Ly_undoLine_90 : decode b_Ly_undoLine 90 = .ok (.iaload, 1) := by decide +kernel
theorem d_Ly_undoLine_91 : decode b_Ly_undoLine 91 = .ok (.iload 6, 2) := by decide +kernel
theorem d_Ly_undoLine_93 : decode b_Ly_undoLine 93 = .ok (.aload_n 0, 1) := by decide +kernel
theorem d_Ly_undoLine_94 : decode b_Ly_undoLine 94 = .ok (.getfield 29, 3) := by decide +kernel
theorem d_Ly_undoLine_97 : decode b_Ly_undoLine 97 = .ok (.iload 4, 2) := by decide +kernel
theorem d_Ly_undoLine_99 : decode b_Ly_undoLine 99 = .ok (.iload 5, 2) := by decide +kernel
theorem d_Ly_undoLine_101 : decode b_Ly_undoLine 101 = .ok (.iadd, 1) := by decide +kernel
theorem d_Ly_undoLine_102 : decode b_Ly_undoLine 102 = .ok (.iaload, 1) := by decide +kernel
theorem d_Ly_undoLine_103 : decode b_Ly_undoLine 103 = .ok (.iadd, 1) := by decide +kernel
theorem d_Ly_undoLine_104 : decode b_Ly_undoLine 104 = .ok (.iconst 2, 1) := by decide +kernel
theorem d_Ly_undoLine_105 : decode b_Ly_undoLine 105 = .ok (.iadd, 1) := by decide +kernel
theorem d_Ly_undoLine_106 : decode b_Ly_undoLine 106 = .ok (.iconst 2, 1) := by decide +kernel
theorem d_Ly_undoLine_107 : decode b_Ly_undoLine 107 = .ok (.ishr, 1) := by decide +kernel
theorem d_Ly_undoLine_108 : decode b_Ly_undoLine 108 = .ok (.isub, 1) := by decide +kernel
theorem d_Ly_undoLine_109 : decode b_Ly_undoLine 109 = .ok (.iastore, 1) := by decide +kernel
theorem d_Ly_undoLine_110 : decode b_Ly_undoLine 110 = .ok (.iinc 5 1, 3) := by decide +kernel
theorem d_Ly_undoLine_113 : decode b_Ly_undoLine 113 = .ok (.goto (-72), 3) := by decide +kernel
theorem d_Ly_undoLine_116 : decode b_Ly_undoLine 116 = .ok (.iconst 0, 1) := by decide +kernel
theorem d_Ly_undoLine_117 : decode b_Ly_undoLine 117 = .ok (.istore 5, 2) := by decide +kernel
theorem d_Ly_undoLine_119 : decode b_Ly_undoLine 119 = .ok (.iload 5, 2) := by decide +kernel
theorem d_Ly_undoLine_121 : decode b_Ly_undoLine 121 = .ok (.iload 4, 2) := by decide +kernel
theorem d_Ly_undoLine_123 : decode b_Ly_undoLine 123 = .ok (.if_icmp .ge 90, 3) := by decide +kernel
theorem d_Ly_undoLine_126 : decode b_Ly_undoLine 126 = .ok (.aload_n 0, 1) := by decide +kernel
theorem d_Ly_undoLine_127 : decode b_Ly_undoLine 127 = .ok (.getfield 19, 3) := by decide +kernel
theorem d_Ly_undoLine_130 : decode b_Ly_undoLine 130 = .ok (.iload_n 1, 1) := by decide +kernel
theorem d_Ly_undoLine_131 : decode b_Ly_undoLine 131 = .ok (.iconst 2, 1) := by decide +kernel
theorem d_Ly_undoLine_132 : decode b_Ly_undoLine 132 = .ok (.iload 5, 2) := by decide +kernel
theorem d_Ly_undoLine_134 : decode b_Ly_undoLine 134 = .ok (.imul, 1) := by decide +kernel
theorem d_Ly_undoLine_135 : decode b_Ly_undoLine 135 = .ok (.iload_n 2, 1) := by decide +kernel
theorem d_Ly_undoLine_136 : decode b_Ly_undoLine 136 = .ok (.imul, 1) := by decide +kernel
theorem d_Ly_undoLine_137 : decode b_Ly_undoLine 137 = .ok (.iadd, 1) := by decide +kernel
theorem d_Ly_undoLine_138 : decode b_Ly_undoLine 138 = .ok (.iaload, 1) := by decide +kernel
theorem d_Ly_undoLine_139 : decode b_Ly_undoLine 139 = .ok (.istore 6, 2) := by decide +kernel
theorem d_Ly_undoLine_141 : decode b_Ly_undoLine 141 = .ok (.aload_n 0, 1) := by decide +kernel
theorem d_Ly_undoLine_142 : decode b_Ly_undoLine 142 = .ok (.getfield 19, 3) := by decide +kernel
theorem d_Ly_undoLine_145 : decode b_Ly_undoLine 145 = .ok (.iload_n 1, 1) := by decide +kernel
theorem d_Ly_undoLine_146 : decode b_Ly_undoLine 146 = .ok (.iconst 2, 1) := by decide +kernel
theorem d_Ly_undoLine_147 : decode b_Ly_undoLine 147 = .ok (.iload 5, 2) := by decide +kernel
theorem d_Ly_undoLine_149 : decode b_Ly_undoLine 149 = .ok (.imul, 1) := by decide +kernel
theorem d_Ly_undoLine_150 : decode b_Ly_undoLine 150 = .ok (.iconst 2, 1) := by decide +kernel
theorem d_Ly_undoLine_151 : decode b_Ly_undoLine 151 = .ok (.iadd, 1) := by decide +kernel
theorem d_Ly_undoLine_152 : decode b_Ly_undoLine 152 = .ok (.iload_n 3, 1) := by decide +kernel
theorem d_Ly_undoLine_153 : decode b_Ly_undoLine 153 = .ok (.if_icmp .ge 12, 3) := by decide +kernel
theorem d_Ly_undoLine_156 : decode b_Ly_undoLine 156 = .ok (.iconst 2, 1) := by decide +kernel
theorem d_Ly_undoLine_157 : decode b_Ly_undoLine 157 = .ok (.iload 5, 2) := by decide +kernel
theorem d_Ly_undoLine_159 : decode b_Ly_undoLine 159 = .ok (.imul, 1) := by decide +kernel
theorem d_Ly_undoLine_160 : decode b_Ly_undoLine 160 = .ok (.iconst 2, 1) := by decide +kernel
theorem d_Ly_undoLine_161 : decode b_Ly_undoLine 161 = .ok (.iadd, 1) := by decide +kernel
theorem d_Ly_undoLine_162 : decode b_Ly_undoLine 162 = .ok (.goto 6, 3) := by decide +kernel
theorem d_Ly_undoLine_165 : decode b_Ly_undoLine 165 = .ok (.iload_n 3, 1) := by decide +kernel
theorem d_Ly_undoLine_166 : decode b_Ly_undoLine 166 = .ok (.iconst 2, 1) := by decide +kernel
theorem d_Ly_undoLine_167 : decode b_Ly_undoLine 167 = .ok (.isub, 1) := by decide +kernel
theorem d_Ly_undoLine_168 : decode b_Ly_undoLine 168 = .ok (.iload_n 2, 1) := by decide +kernel
theorem d_Ly_undoLine_169 : decode b_Ly_undoLine 169 = .ok (.imul, 1) := by decide +kernel
theorem d_Ly_undoLine_170 : decode b_Ly_undoLine 170 = .ok (.iadd, 1) := by decide +kernel
theorem d_Ly_undoLine_171 : decode b_Ly_undoLine 171 = .ok (.iaload, 1) := by decide +kernel
theorem d_Ly_undoLine_172 : decode b_Ly_undoLine 172 = .ok (.istore 7, 2) := by decide +kernel
theorem d_Ly_undoLine_174 : decode b_Ly_undoLine 174 = .ok (.aload_n 0, 1) := by decide +kernel
theorem d_Ly_undoLine_175 : decode b_Ly_undoLine 175 = .ok (.getfield 19, 3) := by decide +kernel
theorem d_Ly_undoLine_178 : decode b_Ly_undoLine 178 = .ok (.iload_n 1, 1) := by decide +kernel
theorem d_Ly_undoLine_179 : decode b_Ly_undoLine 179 = .ok (.iconst 2, 1) := by decide +kernel
theorem d_Ly_undoLine_180 : decode b_Ly_undoLine 180 = .ok (.iload 5, 2) := by decide +kernel
theorem d_Ly_undoLine_182 : decode b_Ly_undoLine 182 = .ok (.imul, 1) := by decide +kernel
theorem d_Ly_undoLine_183 : decode b_Ly_undoLine 183 = .ok (.iconst 1, 1) := by decide +kernel
theorem d_Ly_undoLine_184 : decode b_Ly_undoLine 184 = .ok (.iadd, 1) := by decide +kernel
theorem d_Ly_undoLine_185 : decode b_Ly_undoLine 185 = .ok (.iload_n 2, 1) := by decide +kernel
theorem d_Ly_undoLine_186 : decode b_Ly_undoLine 186 = .ok (.imul, 1) := by decide +kernel
theorem d_Ly_undoLine_187 : decode b_Ly_undoLine 187 = .ok (.iadd, 1) := by decide +kernel
theorem d_Ly_undoLine_188 : decode b_Ly_undoLine 188 = .ok (.aload_n 0, 1) := by decide +kernel
theorem d_Ly_undoLine_189 : decode b_Ly_undoLine 189 = .ok (.getfield 29, 3) := by decide +kernel
theorem d_Ly_undoLine_192 : decode b_Ly_undoLine 192 = .ok (.iload 4, 2) := by decide +kernel
theorem d_Ly_undoLine_194 : decode b_Ly_undoLine 194 = .ok (.iload 5, 2) := by decide +kernel
theorem d_Ly_undoLine_196 : decode b_Ly_undoLine 196 = .ok (.iadd, 1) := by decide +kernel
theorem d_Ly_undoLine_197 : decode b_Ly_undoLine 197 = .ok (.iaload, 1) := by decide +kernel
theorem d_Ly_undoLine_198 : decode b_Ly_undoLine 198 = .ok (.iload 6, 2) := by decide +kernel
theorem d_Ly_undoLine_200 : decode b_Ly_undoLine 200 = .ok (.iload 7, 2) := by decide +kernel
theorem d_Ly_undoLine_202 : decode b_Ly_undoLine 202 = .ok (.iadd, 1) := by decide +kernel
theorem d_Ly_undoLine_203 : decode b_Ly_undoLine 203 = .ok (.iconst 1, 1) := by decide +kernel
theorem d_Ly_undoLine_204 : decode b_Ly_undoLine 204 = .ok (.ishr, 1) := by decide +kernel
theorem d_Ly_undoLine_205 : decode b_Ly_undoLine 205 = .ok (.iadd, 1) := by decide +kernel
theorem d_Ly_undoLine_206 : decode b_Ly_undoLine 206 = .ok (.iastore, 1) := by decide +kernel
theorem d_Ly_undoLine_207 : decode b_Ly_undoLine 207 = .ok (.iinc 5 1, 3) := by decide +kernel
theorem d_Ly_undoLine_210 : decode b_Ly_undoLine 210 = .ok (.goto (-91), 3) := by decide +kernel
theorem d_Ly_undoLine_213 : decode b_Ly_undoLine 213 = .ok (.return_, 1) := by decide +kernel
theorem d_Ly_codeCoefficients_0 : decode b_Ly_codeCoefficients 0 = .ok (.aload_n 0, 1) := by decide +kernel
theorem d_Ly_codeCoefficients_1 : decode b_Ly_codeCoefficients 1 = .ok (.getfield 26, 3) := by decide +kernel
theorem d_Ly_codeCoefficients_4 : decode b_Ly_codeCoefficients 4 = .ok (.iconst 0, 1) := by decide +kernel
theorem d_Ly_codeCoefficients_5 : decode b_Ly_codeCoefficients 5 = .ok (.invokestatic 32, 3) := by decide +kernel
theorem d_Ly_codeCoefficients_8 : decode b_Ly_codeCoefficients 8 = .ok (.bipush 9, 2) := by decide +kernel
theorem d_Ly_codeCoefficients_10 : decode b_Ly_codeCoefficients 10 = .ok (.istore_n 3, 1) := by decide +kernel
theorem d_Ly_codeCoefficients_11 : decode b_Ly_codeCoefficients 11 = .ok (.iload_n 3, 1) := by decide +kernel
theorem d_Ly_codeCoefficients_12 : decode b_Ly_codeCoefficients 12 = .ok (.bipush 10, 2) := by decide +kernel
theorem d_Ly_codeCoefficients_14 : decode b_Ly_codeCoefficients 14 = .ok (.iload_n 1, 1) := by decide +kernel
theorem d_Ly_codeCoefficients_15 : decode b_Ly_codeCoefficients 15 = .ok (.isub, 1) := by decide +kernel
theorem d_Ly_codeCoefficients_16 : decode b_Ly_codeCoefficients 16 = .ok (.if_icmp .lt 36, 3) := by decide +kernel
theorem d_Ly_codeCoefficients_19 : decode b_Ly_codeCoefficients 19 = .ok (.iconst 0, 1) := by decide +kernel
theorem d_Ly_codeCoefficients_20 : decode b_Ly_codeCoefficients 20 = .ok (.istore 4, 2) := by decide +kernel
theorem d_Ly_codeCoefficients_22 : decode b_Ly_codeCoefficients 22 = .ok (.iload 4, 2) := by decide +kernel
theorem d_Ly_codeCoefficients_24 : decode b_Ly_codeCoefficients 24 = .ok (.aload_n 0, 1) := by decide +kernel
theorem d_Ly_codeCoefficients_25 : decode b_Ly_codeCoefficients 25 = .ok (.getfield 26, 3) := by decide +kernel
theorem d_Ly_codeCoefficients_28 : decode b_Ly_codeCoefficients 28 = .ok (.arraylength, 1) := by decide +kernel
theorem d_Ly_codeCoefficients_29 : decode b_Ly_codeCoefficients 29 = .ok (.if_icmp .ge 17, 3) := by decide +kernel
theorem d_Ly_codeCoefficients_32 : decode b_Ly_codeCoefficients 32 = .ok (.aload_n 0, 1) := by decide +kernel
theorem d_Ly_codeCoefficients_33 : decode b_Ly_codeCoefficients 33 = .ok (.iload_n 3, 1) := by decide +kernel
theorem d_Ly_codeCoefficients_34 : decode b_Ly_codeCoefficients 34 = .ok (.iload 4, 2) := by decide +kernel
theorem d_Ly_codeCoefficients_36 : decode b_Ly_codeCoefficients 36 = .ok (.aload_n 2, 1) := by decide +kernel
theorem d_Ly_codeCoefficients_37 : decode b_Ly_codeCoefficients 37 = .ok (.invokevirtual 67, 3) := by decide +kernel
theorem d_Ly_codeCoefficients_40 : decode b_Ly_codeCoefficients 40 = .ok (.iinc 4 1, 3) := by decide +kernel
theorem d_Ly_codeCoefficients_43 : decode b_Ly_codeCoefficients 43 = .ok (.goto (-21), 3) := by decide +kernel
theorem d_Ly_codeCoefficients_46 : decode b_Ly_codeCoefficients 46 = .ok (.iinc 3 (-1), 3) := by decide +kernel
theorem d_Ly_codeCoefficients_49 : decode b_Ly_codeCoefficients 49 = .ok (.goto (-38), 3) := by decide +kernel
theorem d_Ly_codeCoefficients_52 : decode b_Ly_codeCoefficients 52 = .ok (.aload_n 0, 1) := by decide +kernel
theorem d_Ly_codeCoefficients_53 : decode b_Ly_codeCoefficients 53 = .ok (.getfield 26, 3) := by decide +kernel
theorem d_Ly_codeCoefficients_56 : decode b_Ly_codeCoefficients 56 = .ok (.iconst 0, 1) := by decide +kernel
theorem d_Ly_codeCoefficients_57 : decode b_Ly_codeCoefficients 57 = .ok (.aload_n 0, 1) := by decide +kernel
theorem d_Ly_codeCoefficients_58 : decode b_Ly_codeCoefficients 58 = .ok (.getfield 23, 3) := by decide +kernel
theorem d_Ly_codeCoefficients_61 : decode b_Ly_codeCoefficients 61 = .ok (.iconst 0, 1) := by decide +kernel
theorem d_Ly_codeCoefficients_62 : decode b_Ly_codeCoefficients 62 = .ok (.aload_n 0, 1) := by decide +kernel
theorem d_Ly_codeCoefficients_63 : decode b_Ly_codeCoefficients 63 = .ok (.getfield 26, 3) := by decide +kernel
theorem d_Ly_codeCoefficients_66 : decode b_Ly_codeCoefficients 66 = .ok (.arraylength, 1) := by decide +kernel
theorem d_Ly_codeCoefficients_67 : decode b_Ly_codeCoefficients 67 = .ok (.invokestatic 46, 3) := by decide +kernel
theorem d_Ly_codeCoefficients_70 : decode b_Ly_codeCoefficients 70 = .ok (.return_, 1) := by decide +kernel
theorem d_Ly_codePlaneBit_0 : decode b_Ly_codePlaneBit 0 = .ok (.aload_n 0, 1) := by decide +kernel
theorem d_Ly_codePlaneBit_1 : decode b_Ly_codePlaneBit 1 = .ok (.getfield 23, 3) := by decide +kernel
theorem d_Ly_codePlaneBit_4 : decode b_Ly_codePlaneBit 4 = .ok (.iload_n 2, 1) := by decide +kernel
theorem d_Ly_codePlaneBit_5 : decode b_Ly_codePlaneBit 5 = .ok (.iaload, 1) := by decide +kernel
theorem d_Ly_codePlaneBit_6 : decode b_Ly_codePlaneBit 6 = .ok (.istore 4, 2) := by decide +kernel
theorem d_Ly_codePlaneBit_8 : decode b_Ly_codePlaneBit 8 = .ok (.iload 4, 2) := by decide +kernel
theorem d_Ly_codePlaneBit_10 : decode b_Ly_codePlaneBit 10 = .ok (.invokestatic 71, 3) := by decide +kernel
theorem d_Ly_codePlaneBit_13 : decode b_Ly_codePlaneBit 13 = .ok (.iload_n 1, 1) := by decide +kernel
theorem d_Ly_codePlaneBit_14 : decode b_Ly_codePlaneBit 14 = .ok (.ishr, 1) := by decide +kernel
theorem d_Ly_codePlaneBit_15 : decode b_Ly_codePlaneBit 15 = .ok (.iconst 1, 1) := by decide +kernel
theorem d_Ly_codePlaneBit_16 : decode b_Ly_codePlaneBit 16 = .ok (.iand, 1) := by decide +kernel
theorem d_Ly_codePlaneBit_17 : decode b_Ly_codePlaneBit 17 = .ok (.istore 5, 2) := by decide +kernel
theorem d_Ly_codePlaneBit_19 : decode b_Ly_codePlaneBit 19 = .ok (.aload_n 0, 1) := by decide +kernel
theorem d_Ly_codePlaneBit_20 : decode b_Ly_codePlaneBit 20 = .ok (.getfield 26, 3) := by decide +kernel
theorem d_Ly_codePlaneBit_23 : decode b_Ly_codePlaneBit 23 = .ok (.iload_n 2, 1) := by decide +kernel
theorem d_Ly_codePlaneBit_24 : decode b_Ly_codePlaneBit 24 = .ok (.iaload, 1) := by decide +kernel
theorem d_Ly_codePlaneBit_25 : decode b_Ly_codePlaneBit 25 = .ok (.ifCond .eq 43, 3) := by decide +kernel
theorem d_Ly_codePlaneBit_28 : decode b_Ly_codePlaneBit 28 = .ok (.aload_n 3, 1) := by decide +kernel
theorem d_Ly_codePlaneBit_29 : decode b_Ly_codePlaneBit 29 = .ok (.iconst 4, 1) := by decide +kernel
theorem d_Ly_codePlaneBit_30 : decode b_Ly_codePlaneBit 30 = .ok (.iload 5, 2) := by decide +kernel
theorem d_Ly_codePlaneBit_32 : decode b_Ly_codePlaneBit 32 = .ok (.invokevirtual 75, 3) := by decide +kernel
theorem d_Ly_codePlaneBit_35 : decode b_Ly_codePlaneBit 35 = .ok (.iload_n 1, 1) := by decide +kernel
theorem d_Ly_codePlaneBit_36 : decode b_Ly_codePlaneBit 36 = .ok (.ishl, 1) := by decide +kernel
theorem d_Ly_codePlaneBit_37 : decode b_Ly_codePlaneBit 37 = .ok (.istore 6, 2) := by decide +kernel
theorem d_Ly_codePlaneBit_39 : decode b_Ly_codePlaneBit 39 = .ok (.aload_n 0, 1) := by decide +kernel
theorem d_Ly_codePlaneBit_40 : decode b_Ly_codePlaneBit 40 = .ok (.getfield 26, 3) := by decide +kernel
theorem d_Ly_codePlaneBit_43 : decode b_Ly_codePlaneBit 43 = .ok (.iload_n 2, 1) := by decide +kernel
theorem d_Ly_codePlaneBit_44 : decode b_Ly_codePlaneBit 44 = .ok (.dup2, 1) := by decide +kernel
theorem d_Ly_codePlaneBit_45 : decode b_Ly_codePlaneBit 45 = .ok (.iaload, 1) := by decide +kernel
theorem d_Ly_codePlaneBit_46 : decode b_Ly_codePlaneBit 46 = .ok (.aload_n 0, 1) := by decide +kernel
theorem d_Ly_codePlaneBit_47 : decode b_Ly_codePlaneBit 47 = .ok (.getfield 26, 3) := by decide +kernel
theorem d_Ly_codePlaneBit_50 : decode b_Ly_codePlaneBit 50 = .ok (.iload_n 2, 1) := by decide +kernel
theorem d_Ly_codePlaneBit_51 : decode b_Ly_codePlaneBit 51 = .ok (.iaload, 1) := by decide +kernel
theorem d_Ly_codePlaneBit_52 : decode b_Ly_codePlaneBit 52 = .ok (.ifCond .ge 9, 3) := by decide +kernel
theorem d_Ly_codePlaneBit_55 : decode b_Ly_codePlaneBit 55 = .ok (.iload 6, 2) := by decide +kernel
theorem d_Ly_codePlaneBit_57 : decode b_Ly_codePlaneBit 57 = .ok (.ineg, 1) := by decide +kernel
theorem d_Ly_codePlaneBit_58 : decode b_Ly_codePlaneBit 58 = .ok (.goto 5, 3) := by decide +kernel
theorem d_Ly_codePlaneBit_61 : decode b_Ly_codePlaneBit 61 = .ok (.iload 6, 2) := by decide +kernel
theorem d_Ly_codePlaneBit_63 : decode b_Ly_codePlaneBit 63 = .ok (.iadd, 1) := by decide +kernel
theorem d_Ly_codePlaneBit_64 : decode b_Ly_codePlaneBit 64 = .ok (.iastore, 1) := by decide +kernel
theorem d_Ly_codePlaneBit_65 : decode b_Ly_codePlaneBit 65 = .ok (.goto 65, 3) := by decide +kernel
theorem d_Ly_codePlaneBit_68 : decode b_Ly_codePlaneBit 68 = .ok (.aload_n 3, 1) := by decide +kernel
theorem d_Ly_codePlaneBit_69 : decode b_Ly_codePlaneBit 69 = .ok (.aload_n 0, 1) := by decide +kernel
theorem d_Ly_codePlaneBit_70 : decode b_Ly_codePlaneBit 70 = .ok (.iload_n 2, 1) := by decide +kernel
theorem d_Ly_codePlaneBit_71 : decode b_Ly_codePlaneBit 71 = .ok (.invokevirtual 80, 3) := by decide +kernel
theorem d_Ly_codePlaneBit_74 : decode b_Ly_codePlaneBit 74 = .ok (.iload 5, 2) := by decide +kernel
theorem d_Ly_codePlaneBit_76 : decode b_Ly_codePlaneBit 76 = .ok (.invokevirtual 75, 3) := by decide +kernel
theorem d_Ly_codePlaneBit_79 : decode b_Ly_codePlaneBit 79 = .ok (.iconst 1, 1) := by decide +kernel
theorem d_Ly_codePlaneBit_80 : decode b_Ly_codePlaneBit 80 = .ok (.if_icmp .ne 50, 3) := by decide +kernel
theorem d_Ly_codePlaneBit_83 : decode b_Ly_codePlaneBit 83 = .ok (.aload_n 3, 1) := by decide +kernel
theorem d_Ly_codePlaneBit_84 : decode b_Ly_codePlaneBit 84 = .ok (.iconst 3, 1) := by decide +kernel
theorem d_Ly_codePlaneBit_85 : decode b_Ly_codePlaneBit 85 = .ok (.iload 4, 2) := by decide +kernel
theorem d_Ly_codePlaneBit_87 : decode b_Ly_codePlaneBit 87 = .ok (.ifCond .ge 7, 3) := by decide +kernel
theorem d_Ly_codePlaneBit_90 : decode b_Ly_codePlaneBit 90 = .ok (.iconst 1, 1) := by decide +kernel
theorem d_Ly_codePlaneBit_91 : decode b_Ly_codePlaneBit 91 = .ok (.goto 4, 3) := by decide +kernel
theorem d_Ly_codePlaneBit_94 : decode b_Ly_codePlaneBit 94 = .ok (.iconst 0, 1) := by decide +kernel
theorem d_Ly_codePlaneBit_95 : decode b_Ly_codePlaneBit 95 = .ok (.invokevirtual 75, 3) := by decide +kernel
theorem d_Ly_codePlaneBit_98 : decode b_Ly_codePlaneBit 98 = .ok (.iconst 1, 1) := by decide +kernel
theorem d_Ly_codePlaneBit_99 : decode b_Ly_codePlaneBit 99 = .ok (.if_icmp .ne 7, 3) := by decide +kernel
theorem d_Ly_codePlaneBit_102 : decode b_Ly_codePlaneBit 102 = .ok (.iconst 1, 1) := by decide +kernel
theorem d_Ly_codePlaneBit_103 : decode b_Ly_codePlaneBit 103 = .ok (.goto 4, 3) := by decide +kernel
theorem d_Ly_codePlaneBit_106 : decode b_Ly_codePlaneBit 106 = .ok (.iconst 0, 1) := by decide +kernel
theorem d_Ly_codePlaneBit_107 : decode b_Ly_codePlaneBit 107 = .ok (.istore 6, 2) := by decide +kernel
theorem d_Ly_codePlaneBit_109 : decode b_Ly_codePlaneBit 109 = .ok (.aload_n 0, 1) := by decide +kernel
theorem d_Ly_codePlaneBit_110 : decode b_Ly_codePlaneBit 110 = .ok (.getfield 26, 3) := by decide +kernel
theorem d_Ly_codePlaneBit_113 : decode b_Ly_codePlaneBit 113 = .ok (.iload_n 2, 1) := by decide +kernel
theorem d_Ly_codePlaneBit_114 : decode b_Ly_codePlaneBit 114 = .ok (.iload 6, 2) := by decide +kernel
theorem d_Ly_codePlaneBit_116 : decode b_Ly_codePlaneBit 116 = .ok (.ifCond .eq 10, 3) := by decide +kernel
theorem d_Ly_codePlaneBit_119 : decode b_Ly_codePlaneBit 119 = .ok (.iconst 1, 1) := by decide +kernel
theorem d_Ly_codePlaneBit_120 : decode b_Ly_codePlaneBit 120 = .ok (.iload_n 1, 1) := by decide +kernel
theorem d_Ly_codePlaneBit_121 : decode b_Ly_codePlaneBit 121 = .ok (.ishl, 1) := by decide +kernel
theorem d_Ly_codePlaneBit_122 : decode b_Ly_codePlaneBit 122 = .ok (.ineg, 1) := by decide +kernel
theorem d_Ly_codePlaneBit_123 : decode b_Ly_codePlaneBit 123 = .ok (.goto 6, 3) := by decide +kernel
theorem d_Ly_codePlaneBit_126 : decode b_Ly_codePlaneBit 126 = .ok (.iconst 1, 1) := by decide +kernel
theorem d_Ly_codePlaneBit_127 : decode b_Ly_codePlaneBit 127 = .ok (.iload_n 1, 1) := by decide +kernel
theorem d_Ly_codePlaneBit_128 : decode b_Ly_codePlaneBit 128 = .ok (.ishl, 1) := by decide +kernel
theorem d_Ly_codePlaneBit_129 : decode b_Ly_codePlaneBit 129 = .ok (.iastore, 1) := by decide +kernel
theorem d_Ly_codePlaneBit_130 : decode b_Ly_codePlaneBit 130 = .ok (.return_, 1) := by decide +kernel
theorem d_Ly_begunNeighbours_0 : decode b_Ly_begunNeighbours 0 = .ok (.iload_n 1, 1) := by decide +kernel
theorem d_Ly_begunNeighbours_1 : decode b_Ly_begunNeighbours 1 = .ok (.aload_n 0, 1) := by decide +kernel
theorem d_Ly_begunNeighbours_2 : decode b_Ly_begunNeighbours 2 = .ok (.getfield 15, 3) := by decide +kernel
theorem d_Ly_begunNeighbours_5 : decode b_Ly_begunNeighbours 5 = .ok (.irem, 1) := by decide +kernel
theorem d_Ly_begunNeighbours_6 : decode b_Ly_begunNeighbours 6 = .ok (.ifCond .le 18, 3) := by decide +kernel
theorem d_Ly_begunNeighbours_9 : decode b_Ly_begunNeighbours 9 = .ok (.aload_n 0, 1) := by decide +kernel
theorem d_Ly_begunNeighbours_10 : decode b_Ly_begunNeighbours 10 = .ok (.getfield 26, 3) := by decide +kernel
theorem d_Ly_begunNeighbours_13 : decode b_Ly_begunNeighbours 13 = .ok (.iload_n 1, 1) := by decide +kernel
theorem d_Ly_begunNeighbours_14 : decode b_Ly_begunNeighbours 14 = .ok (.iconst 1, 1) := by decide +kernel
theorem d_Ly_begunNeighbours_15 : decode b_Ly_begunNeighbours 15 = .ok (.isub, 1) := by decide +kernel
theorem d_Ly_begunNeighbours_16 : decode b_Ly_begunNeighbours 16 = .ok (.iaload, 1) := by decide +kernel
theorem d_Ly_begunNeighbours_17 : decode b_Ly_begunNeighbours 17 = .ok (.ifCond .eq 7, 3) := by decide +kernel
theorem d_Ly_begunNeighbours_20 : decode b_Ly_begunNeighbours 20 = .ok (.iconst 1, 1) := by decide +kernel
theorem d_Ly_begunNeighbours_21 : decode b_Ly_begunNeighbours 21 = .ok (.goto 4, 3) := by decide +kernel
theorem d_Ly_begunNeighbours_24 : decode b_Ly_begunNeighbours 24 = .ok (.iconst 0, 1) := by decide +kernel
theorem d_Ly_begunNeighbours_25 : decode b_Ly_begunNeighbours 25 = .ok (.istore_n 2, 1) := by decide +kernel
theorem d_Ly_begunNeighbours_26 : decode b_Ly_begunNeighbours 26 = .ok (.iload_n 1, 1) := by decide +kernel
theorem d_Ly_begunNeighbours_27 : decode b_Ly_begunNeighbours 27 = .ok (.aload_n 0, 1) := by decide +kernel
theorem d_Ly_begunNeighbours_28 : decode b_Ly_begunNeighbours 28 = .ok (.getfield 15, 3) := by decide +kernel
theorem d_Ly_begunNeighbours_31 : decode b_Ly_begunNeighbours 31 = .ok (.if_icmp .lt 21, 3) := by decide +kernel
theorem d_Ly_begunNeighbours_34 : decode b_Ly_begunNeighbours 34 = .ok (.aload_n 0, 1) := by decide +kernel
theorem d_Ly_begunNeighbours_35 : decode b_Ly_begunNeighbours 35 = .ok (.getfield 26, 3) := by decide +kernel
theorem d_Ly_begunNeighbours_38 : decode b_Ly_begunNeighbours 38 = .ok (.iload_n 1, 1) := by decide +kernel
theorem d_Ly_begunNeighbours_39 : decode b_Ly_begunNeighbours 39 = .ok (.aload_n 0, 1) := by decide +kernel
theorem d_Ly_begunNeighbours_40 : decode b_Ly_begunNeighbours 40 = .ok (.getfield 15, 3) := by decide +kernel
theorem d_Ly_begunNeighbours_43 : decode b_Ly_begunNeighbours 43 = .ok (.isub, 1) := by decide +kernel
theorem d_Ly_begunNeighbours_44 : decode b_Ly_begunNeighbours 44 = .ok (.iaload, 1) := by decide +kernel
theorem d_Ly_begunNeighbours_45 : decode b_Ly_begunNeighbours 45 = .ok (.ifCond .eq 7, 3) := by decide +kernel
theorem d_Ly_begunNeighbours_48 : decode b_Ly_begunNeighbours 48 = .ok (.iconst 1, 1) := by decide +kernel
theorem d_Ly_begunNeighbours_49 : decode b_Ly_begunNeighbours 49 = .ok (.goto 4, 3) := by decide +kernel
theorem d_Ly_begunNeighbours_52 : decode b_Ly_begunNeighbours 52 = .ok (.iconst 0, 1) := by decide +kernel
theorem d_Ly_begunNeighbours_53 : decode b_Ly_begunNeighbours 53 = .ok (.istore_n 3, 1) := by decide +kernel
theorem d_Ly_begunNeighbours_54 : decode b_Ly_begunNeighbours 54 = .ok (.iload_n 2, 1) := by decide +kernel
theorem d_Ly_begunNeighbours_55 : decode b_Ly_begunNeighbours 55 = .ok (.iload_n 3, 1) := by decide +kernel
theorem d_Ly_begunNeighbours_56 : decode b_Ly_begunNeighbours 56 = .ok (.iadd, 1) := by decide +kernel
theorem d_Ly_begunNeighbours_57 : decode b_Ly_begunNeighbours 57 = .ok (.ireturn, 1) := by decide +kernel
theorem d_Oct_init_0 : decode b_Oct_init 0 = .ok (.aload_n 0, 1) := by decide +kernel
theorem d_Oct_init_1 : decode b_Oct_init 1 = .ok (.invokespecial 3, 3) := by decide +kernel
theorem d_Oct_init_4 : decode b_Oct_init 4 = .ok (.aload_n 0, 1) := by decide +kernel
theorem d_Oct_init_5 : decode b_Oct_init 5 = .ok (.sipush 1200, 3) := by decide +kernel
theorem d_Oct_init_8 : decode b_Oct_init 8 = .ok (.newarray .int, 2) := by decide +kernel
theorem d_Oct_init_10 : decode b_Oct_init 10 = .ok (.putfield 9, 3) := by decide +kernel
theorem d_Oct_init_13 : decode b_Oct_init 13 = .ok (.aload_n 0, 1) := by decide +kernel
theorem d_Oct_init_14 : decode b_Oct_init 14 = .ok (.iconst 0, 1) := by decide +kernel
theorem d_Oct_init_15 : decode b_Oct_init 15 = .ok (.putfield 15, 3) := by decide +kernel
theorem d_Oct_init_18 : decode b_Oct_init 18 = .ok (.return_, 1) := by decide +kernel
theorem d_Oct_at_0 : decode b_Oct_at 0 = .ok (.iload_n 1, 1) := by decide +kernel
theorem d_Oct_at_1 : decode b_Oct_at 1 = .ok (.ifCond .lt 20, 3) := by decide +kernel
theorem d_Oct_at_4 : decode b_Oct_at 4 = .ok (.iload_n 1, 1) := by decide +kernel
theorem d_Oct_at_5 : decode b_Oct_at 5 = .ok (.aload_n 0, 1) := by decide +kernel
theorem d_Oct_at_6 : decode b_Oct_at 6 = .ok (.getfield 15, 3) := by decide +kernel
theorem d_Oct_at_9 : decode b_Oct_at 9 = .ok (.if_icmp .ge 12, 3) := by decide +kernel
theorem d_Oct_at_12 : decode b_Oct_at 12 = .ok (.aload_n 0, 1) := by decide +kernel
theorem d_Oct_at_13 : decode b_Oct_at 13 = .ok (.getfield 9, 3) := by decide +kernel
theorem d_Oct_at_16 : decode b_Oct_at 16 = .ok (.iload_n 1, 1) := by decide +kernel
theorem d_Oct_at_17 : decode b_Oct_at 17 = .ok (.iaload, 1) := by decide +kernel
theorem d_Oct_at_18 : decode b_Oct_at 18 = .ok (.goto 4, 3) := by decide +kernel
theorem d_Oct_at_21 : decode b_Oct_at 21 = .ok (.iconst (-1), 1) := by decide +kernel
theorem d_Oct_at_22 : decode b_Oct_at 22 = .ok (.ireturn, 1) := by decide +kernel
theorem d_Oct_set_0 : decode b_Oct_set 0 = .ok (.iload_n 1, 1) := by decide +kernel
theorem d_Oct_set_1 : decode b_Oct_set 1 = .ok (.ifCond .lt 39, 3) := by decide +kernel
theorem d_Oct_set_4 : decode b_Oct_set 4 = .ok (.iload_n 1, 1) := by decide +kernel
theorem d_Oct_set_5 : decode b_Oct_set 5 = .ok (.aload_n 0, 1) := by decide +kernel
theorem d_Oct_set_6 : decode b_Oct_set 6 = .ok (.getfield 15, 3) := by decide +kernel
theorem d_Oct_set_9 : decode b_Oct_set 9 = .ok (.if_icmp .gt 31, 3) := by decide +kernel
theorem d_Oct_set_12 : decode b_Oct_set 12 = .ok (.iload_n 1, 1) := by decide +kernel
theorem d_Oct_set_13 : decode b_Oct_set 13 = .ok (.sipush 1200, 3) := by decide +kernel
theorem d_Oct_set_16 : decode b_Oct_set 16 = .ok (.if_icmp .ge 24, 3) := by decide +kernel
theorem d_Oct_set_19 : decode b_Oct_set 19 = .ok (.aload_n 0, 1) := by decide +kernel
theorem d_Oct_set_20 : decode b_Oct_set 20 = .ok (.getfield 9, 3) := by decide +kernel
theorem d_Oct_set_23 : decode b_Oct_set 23 = .ok (.iload_n 1, 1) := by decide +kernel
theorem d_Oct_set_24 : decode b_Oct_set 24 = .ok (.iload_n 2, 1) := by decide +kernel
theorem d_Oct_set_25 : decode b_Oct_set 25 = .ok (.iastore, 1) := by decide +kernel
theorem d_Oct_set_26 : decode b_Oct_set 26 = .ok (.aload_n 0, 1) := by decide +kernel
theorem d_Oct_set_27 : decode b_Oct_set 27 = .ok (.aload_n 0, 1) := by decide +kernel
theorem d_Oct_set_28 : decode b_Oct_set 28 = .ok (.getfield 15, 3) := by decide +kernel
theorem d_Oct_set_31 : decode b_Oct_set 31 = .ok (.iload_n 1, 1) := by decide +kernel
theorem d_Oct_set_32 : decode b_Oct_set 32 = .ok (.iconst 1, 1) := by decide +kernel
theorem d_Oct_set_33 : decode b_Oct_set 33 = .ok (.iadd, 1) := by decide +kernel
theorem d_Oct_set_34 : decode b_Oct_set 34 = .ok (.invokestatic 19, 3) := by decide +kernel
theorem d_Oct_set_37 : decode b_Oct_set 37 = .ok (.putfield 15, 3) := by decide +kernel
theorem d_Oct_set_40 : decode b_Oct_set 40 = .ok (.return_, 1) := by decide +kernel
theorem d_Oct_append_0 : decode b_Oct_append 0 = .ok (.aload_n 0, 1) := by decide +kernel
theorem d_Oct_append_1 : decode b_Oct_append 1 = .ok (.aload_n 0, 1) := by decide +kernel
theorem d_Oct_append_2 : decode b_Oct_append 2 = .ok (.getfield 15, 3) := by decide +kernel
theorem d_Oct_append_5 : decode b_Oct_append 5 = .ok (.iload_n 1, 1) := by decide +kernel
theorem d_Oct_append_6 : decode b_Oct_append 6 = .ok (.invokevirtual 25, 3) := by decide +kernel
theorem d_Oct_append_9 : decode b_Oct_append 9 = .ok (.return_, 1) := by decide +kernel
theorem d_Oct_keep_0 : decode b_Oct_keep 0 = .ok (.iload_n 1, 1) := by decide +kernel
theorem d_Oct_keep_1 : decode b_Oct_keep 1 = .ok (.ifCond .lt 39, 3) := by decide +kernel
theorem d_Oct_keep_4 : decode b_Oct_keep 4 = .ok (.iload_n 1, 1) := by decide +kernel
theorem d_Oct_keep_5 : decode b_Oct_keep 5 = .ok (.aload_n 0, 1) := by decide +kernel
theorem d_Oct_keep_6 : decode b_Oct_keep 6 = .ok (.getfield 15, 3) := by decide +kernel
theorem d_Oct_keep_9 : decode b_Oct_keep 9 = .ok (.if_icmp .gt 31, 3) := by decide +kernel
theorem d_Oct_keep_12 : decode b_Oct_keep 12 = .ok (.iload_n 1, 1) := by decide +kernel
theorem d_Oct_keep_13 : decode b_Oct_keep 13 = .ok (.istore_n 2, 1) := by decide +kernel
theorem d_Oct_keep_14 : decode b_Oct_keep 14 = .ok (.iload_n 2, 1) := by decide +kernel
theorem d_Oct_keep_15 : decode b_Oct_keep 15 = .ok (.aload_n 0, 1) := by decide +kernel
theorem d_Oct_keep_16 : decode b_Oct_keep 16 = .ok (.getfield 15, 3) := by decide +kernel
theorem d_Oct_keep_19 : decode b_Oct_keep 19 = .ok (.if_icmp .ge 16, 3) := by decide +kernel
theorem d_Oct_keep_22 : decode b_Oct_keep 22 = .ok (.aload_n 0, 1) := by decide +kernel
theorem d_Oct_keep_23 : decode b_Oct_keep 23 = .ok (.getfield 9, 3) := by decide +kernel
theorem d_Oct_keep_26 : decode b_Oct_keep 26 = .ok (.iload_n 2, 1) := by decide +kernel
theorem d_Oct_keep_27 : decode b_Oct_keep 27 = .ok (.iconst 0, 1) := by decide +kernel
theorem d_Oct_keep_28 : decode b_Oct_keep 28 = .ok (.iastore, 1) := by decide +kernel
theorem d_Oct_keep_29 : decode b_Oct_keep 29 = .ok (.iinc 2 1, 3) := by decide +kernel
theorem d_Oct_keep_32 : decode b_Oct_keep 32 = .ok (.goto (-18), 3) := by decide +kernel
theorem d_Oct_keep_35 : decode b_Oct_keep 35 = .ok (.aload_n 0, 1) := by decide +kernel
theorem d_Oct_keep_36 : decode b_Oct_keep 36 = .ok (.iload_n 1, 1) := by decide +kernel
theorem d_Oct_keep_37 : decode b_Oct_keep 37 = .ok (.putfield 15, 3) := by decide +kernel
theorem d_Oct_keep_40 : decode b_Oct_keep 40 = .ok (.return_, 1) := by decide +kernel
theorem d_Oct_take_0 : decode b_Oct_take 0 = .ok (.aload_n 0, 1) := by decide +kernel
theorem d_Oct_take_1 : decode b_Oct_take 1 = .ok (.sipush 1200, 3) := by decide +kernel
theorem d_Oct_take_4 : decode b_Oct_take 4 = .ok (.aload_n 0, 1) := by decide +kernel
theorem d_Oct_take_5 : decode b_Oct_take 5 = .ok (.getfield 15, 3) := by decide +kernel
theorem d_Oct_take_8 : decode b_Oct_take 8 = .ok (.iload_n 1, 1) := by decide +kernel
theorem d_Oct_take_9 : decode b_Oct_take 9 = .ok (.iadd, 1) := by decide +kernel
theorem d_Oct_take_10 : decode b_Oct_take 10 = .ok (.invokestatic 29, 3) := by decide +kernel
theorem d_Oct_take_13 : decode b_Oct_take 13 = .ok (.putfield 15, 3) := by decide +kernel
theorem d_Oct_take_16 : decode b_Oct_take 16 = .ok (.return_, 1) := by decide +kernel
theorem d_Oct_openChunk_0 : decode b_Oct_openChunk 0 = .ok (.aload_n 0, 1) := by decide +kernel
theorem d_Oct_openChunk_1 : decode b_Oct_openChunk 1 = .ok (.iload_n 1, 1) := by decide +kernel
theorem d_Oct_openChunk_2 : decode b_Oct_openChunk 2 = .ok (.invokevirtual 32, 3) := by decide +kernel
theorem d_Oct_openChunk_5 : decode b_Oct_openChunk 5 = .ok (.aload_n 0, 1) := by decide +kernel
theorem d_Oct_openChunk_6 : decode b_Oct_openChunk 6 = .ok (.iconst 0, 1) := by decide +kernel
theorem d_Oct_openChunk_7 : decode b_Oct_openChunk 7 = .ok (.invokevirtual 32, 3) := by decide +kernel
theorem d_Oct_openChunk_10 : decode b_Oct_openChunk 10 = .ok (.aload_n 0, 1) := by decide +kernel
theorem d_Oct_openChunk_11 : decode b_Oct_openChunk 11 = .ok (.iconst 0, 1) := by decide +kernel
theorem d_Oct_openChunk_12 : decode b_Oct_openChunk 12 = .ok (.invokevirtual 32, 3) := by decide +kernel
theorem d_Oct_openChunk_15 : decode b_Oct_openChunk 15 = .ok (.aload_n 0, 1) := by decide +kernel
theorem d_Oct_openChunk_16 : decode b_Oct_openChunk 16 = .ok (.getfield 15, 3) := by decide +kernel
theorem d_Oct_openChunk_19 : decode b_Oct_openChunk 19 = .ok (.ireturn, 1) := by decide +kernel
theorem d_Oct_closeChunk_0 : decode b_Oct_closeChunk 0 = .ok (.aload_n 0, 1) := by decide +kernel
theorem d_Oct_closeChunk_1 : decode b_Oct_closeChunk 1 = .ok (.getfield 15, 3) := by decide +kernel
theorem d_Oct_closeChunk_4 : decode b_Oct_closeChunk 4 = .ok (.iload_n 1, 1) := by decide +kernel
theorem d_Oct_closeChunk_5 : decode b_Oct_closeChunk 5 = .ok (.isub, 1) := by decide +kernel
theorem d_Oct_closeChunk_6 : decode b_Oct_closeChunk 6 = .ok (.istore_n 2, 1) := by decide +kernel
theorem d_Oct_closeChunk_7 : decode b_Oct_closeChunk 7 = .ok (.aload_n 0, 1) := by decide +kernel
theorem d_Oct_closeChunk_8 : decode b_Oct_closeChunk 8 = .ok (.iload_n 1, 1) := by decide +kernel
theorem d_Oct_closeChunk_9 : decode b_Oct_closeChunk 9 = .ok (.iconst 2, 1) := by decide +kernel
theorem d_Oct_closeChunk_10 : decode b_Oct_closeChunk 10 = .ok (.isub, 1) := by decide +kernel
theorem d_Oct_closeChunk_11 : decode b_Oct_closeChunk 11 = .ok (.iload_n 2, 1) := by decide +kernel
theorem d_Oct_closeChunk_12 : decode b_Oct_closeChunk 12 = .ok (.sipush 256, 3) := by decide +kernel
theorem d_Oct_closeChunk_15 : decode b_Oct_closeChunk 15 = .ok (.idiv, 1) := by decide +kernel
theorem d_Oct_closeChunk_16 : decode b_Oct_closeChunk 16 = .ok (.invokevirtual 25, 3) := by decide +kernel
theorem d_Oct_closeChunk_19 : decode b_Oct_closeChunk 19 = .ok (.aload_n 0, 1) := by decide +kernel
theorem d_Oct_closeChunk_20 : decode b_Oct_closeChunk 20 = .ok (.iload_n 1, 1) := by decide +kernel
theorem d_Oct_closeChunk_21 : decode b_Oct_closeChunk 21 = .ok (.iconst 1, 1) := by decide +kernel
theorem d_Oct_closeChunk_22 : decode b_Oct_closeChunk 22 = .ok (.isub, 1) := by decide +kernel
theorem d_Oct_closeChunk_23 : decode b_Oct_closeChunk 23 = .ok (.iload_n 2, 1) := by decide +kernel
theorem d_Oct_closeChunk_24 : decode b_Oct_closeChunk 24 = .ok (.sipush 256, 3) := by decide +kernel
theorem d_Oct_closeChunk_27 : decode b_Oct_closeChunk 27 = .ok (.irem, 1) := by decide +kernel
theorem d_Oct_closeChunk_28 : decode b_Oct_closeChunk 28 = .ok (.invokevirtual 25, 3) := by decide +kernel
theorem d_Oct_closeChunk_31 : decode b_Oct_closeChunk 31 = .ok (.return_, 1) := by decide +kernel
theorem d_Oct_chunkSize_0 : decode b_Oct_chunkSize 0 = .ok (.aload_n 0, 1) := by decide +kernel
theorem d_Oct_chunkSize_1 : decode b_Oct_chunkSize 1 = .ok (.getfield 15, 3) := by decide +kernel
theorem d_Oct_chunkSize_4 : decode b_Oct_chunkSize 4 = .ok (.iload_n 1, 1) := by decide +kernel
theorem d_Oct_chunkSize_5 : decode b_Oct_chunkSize 5 = .ok (.isub, 1) := by decide +kernel
theorem d_Oct_chunkSize_6 : decode b_Oct_chunkSize 6 = .ok (.iconst 3, 1) := by decide +kernel
theorem d_Oct_chunkSize_7 : decode b_Oct_chunkSize 7 = .ok (.if_icmp .ge 5, 3) := by decide +kernel
theorem d_Oct_chunkSize_10 : decode b_Oct_chunkSize 10 = .ok (.iconst (-1), 1) := by decide +kernel
theorem d_Oct_chunkSize_11 : decode b_Oct_chunkSize 11 = .ok (.ireturn, 1) := by decide +kernel
theorem d_Oct_chunkSize_12 : decode b_Oct_chunkSize 12 = .ok (.sipush 256, 3) := by decide +kernel
theorem d_Oct_chunkSize_15 : decode b_Oct_chunkSize 15 = .ok (.aload_n 0, 1) := by decide +kernel
theorem d_Oct_chunkSize_16 : decode b_Oct_chunkSize 16 = .ok (.iload_n 1, 1) := by decide +kernel
theorem d_Oct_chunkSize_17 : decode b_Oct_chunkSize 17 = .ok (.iconst 1, 1) := by decide +kernel
theorem d_Oct_chunkSize_18 : decode b_Oct_chunkSize 18 = .ok (.iadd, 1) := by decide +kernel
theorem d_Oct_chunkSize_19 : decode b_Oct_chunkSize 19 = .ok (.invokevirtual 36, 3) := by decide +kernel
theorem d_Oct_chunkSize_22 : decode b_Oct_chunkSize 22 = .ok (.imul, 1) := by decide +kernel
theorem d_Oct_chunkSize_23 : decode b_Oct_chunkSize 23 = .ok (.aload_n 0, 1) := by decide +kernel
theorem d_Oct_chunkSize_24 : decode b_Oct_chunkSize 24 = .ok (.iload_n 1, 1) := by decide +kernel
theorem d_Oct_chunkSize_25 : decode b_Oct_chunkSize 25 = .ok (.iconst 2, 1) := by decide +kernel
theorem d_Oct_chunkSize_26 : decode b_Oct_chunkSize 26 = .ok (.iadd, 1) := by decide +kernel
theorem d_Oct_chunkSize_27 : decode b_Oct_chunkSize 27 = .ok (.invokevirtual 36, 3) := by decide +kernel
theorem d_Oct_chunkSize_30 : decode b_Oct_chunkSize 30 = .ok (.iadd, 1) := by decide +kernel
theorem d_Oct_chunkSize_31 : decode b_Oct_chunkSize 31 = .ok (.istore_n 2, 1) := by decide +kernel
theorem d_Oct_chunkSize_32 : decode b_Oct_chunkSize 32 = .ok (.iload_n 2, 1) := by decide +kernel
theorem d_Oct_chunkSize_33 : decode b_Oct_chunkSize 33 = .ok (.aload_n 0, 1) := by decide +kernel
theorem d_Oct_chunkSize_34 : decode b_Oct_chunkSize 34 = .ok (.getfield 15, 3) := by decide +kernel
theorem d_Oct_chunkSize_37 : decode b_Oct_chunkSize 37 = .ok (.iload_n 1, 1) := by decide +kernel
theorem d_Oct_chunkSize_38 : decode b_Oct_chunkSize 38 = .ok (.isub, 1) := by decide +kernel
theorem d_Oct_chunkSize_39 : decode b_Oct_chunkSize 39 = .ok (.iconst 3, 1) := by decide +kernel
theorem d_Oct_chunkSize_40 : decode b_Oct_chunkSize 40 = .ok (.isub, 1) := by decide +kernel
theorem d_Oct_chunkSize_41 : decode b_Oct_chunkSize 41 = .ok (.if_icmp .le 7, 3) := by decide +kernel
theorem d_Oct_chunkSize_44 : decode b_Oct_chunkSize 44 = .ok (.iconst (-1), 1) := by decide +kernel
theorem d_Oct_chunkSize_45 : decode b_Oct_chunkSize 45 = .ok (.goto 4, 3) := by decide +kernel
theorem d_Oct_chunkSize_48 : decode b_Oct_chunkSize 48 = .ok (.iload_n 2, 1) := by decide +kernel
theorem d_Oct_chunkSize_49 : decode b_Oct_chunkSize 49 = .ok (.ireturn, 1) := by decide +kernel
theorem d_Pg_init_0 : decode b_Pg_init 0 = .ok (.aload_n 0, 1) := by decide +kernel
theorem d_Pg_init_1 : decode b_Pg_init 1 = .ok (.invokespecial 3, 3) := by decide +kernel
theorem d_Pg_init_4 : decode b_Pg_init 4 = .ok (.aload_n 0, 1) := by decide +kernel
theorem d_Pg_init_5 : decode b_Pg_init 5 = .ok (.bipush 8, 2) := by decide +kernel
theorem d_Pg_init_7 : decode b_Pg_init 7 = .ok (.anewarray 9, 3) := by decide +kernel
theorem d_Pg_init_10 : decode b_Pg_init 10 = .ok (.putfield 11, 3) := by decide +kernel
theorem d_Pg_init_13 : decode b_Pg_init 13 = .ok (.aload_n 0, 1) := by decide +kernel
theorem d_Pg_init_14 : decode b_Pg_init 14 = .ok (.iconst 0, 1) := by decide +kernel
theorem d_Pg_init_15 : decode b_Pg_init 15 = .ok (.putfield 17, 3) := by decide +kernel
theorem d_Pg_init_18 : decode b_Pg_init 18 = .ok (.aload_n 0, 1) := by decide +kernel
theorem d_Pg_init_19 : decode b_Pg_init 19 = .ok (.bipush 20, 2) := by decide +kernel
theorem d_Pg_init_21 : decode b_Pg_init 21 = .ok (.newarray .int, 2) := by decide +kernel
theorem d_Pg_init_23 : decode b_Pg_init 23 = .ok (.putfield 21, 3) := by decide +kernel
theorem d_Pg_init_26 : decode b_Pg_init 26 = .ok (.aload_n 0, 1) := by decide +kernel
theorem d_Pg_init_27 : decode b_Pg_init 27 = .ok (.bipush 20, 2) := by decide +kernel
theorem d_Pg_init_29 : decode b_Pg_init 29 = .ok (.newarray .int, 2) := by decide +kernel
theorem d_Pg_init_31 : decode b_Pg_init 31 = .ok (.putfield 25, 3) := by decide +kernel
theorem d_Pg_init_34 : decode b_Pg_init 34 = .ok (.aload_n 0, 1) := by decide +kernel
theorem d_Pg_init_35 : decode b_Pg_init 35 = .ok (.iconst 0, 1) := by decide +kernel
theorem d_Pg_init_36 : decode b_Pg_init 36 = .ok (.putfield 28, 3) := by decide +kernel
theorem d_Pg_init_39 : decode b_Pg_init 39 = .ok (.aload_n 0, 1) := by decide +kernel
theorem d_Pg_init_40 : decode b_Pg_init 40 = .ok (.new 31, 3) := by decide +kernel
theorem d_Pg_init_43 : decode b_Pg_init 43 = .ok (.dup, 1) := by decide +kernel
theorem d_Pg_init_44 : decode b_Pg_init 44 = .ok (.bipush 8, 2) := by decide +kernel
theorem d_Pg_init_46 : decode b_Pg_init 46 = .ok (.invokespecial 33, 3) := by decide +kernel
theorem d_Pg_init_49 : decode b_Pg_init 49 = .ok (.putfield 36, 3) := by decide +kernel
theorem d_Pg_init_52 : decode b_Pg_init 52 = .ok (.aload_n 0, 1) := by decide +kernel
theorem d_Pg_init_53 : decode b_Pg_init 53 = .ok (.new 31, 3) := by decide +kernel
theorem d_Pg_init_56 : decode b_Pg_init 56 = .ok (.dup, 1) := by decide +kernel
theorem d_Pg_init_57 : decode b_Pg_init 57 = .ok (.iconst 4, 1) := by decide +kernel
theorem d_Pg_init_58 : decode b_Pg_init 58 = .ok (.invokespecial 33, 3) := by decide +kernel
theorem d_Pg_init_61 : decode b_Pg_init 61 = .ok (.putfield 40, 3) := by decide +kernel
theorem d_Pg_init_64 : decode b_Pg_init 64 = .ok (.iconst 0, 1) := by decide +kernel
theorem d_Pg_init_65 : decode b_Pg_init 65 = .ok (.istore_n 1, 1) := by decide +kernel
theorem d_Pg_init_66 : decode b_Pg_init 66 = .ok (.iload_n 1, 1) := by decide +kernel
theorem d_Pg_init_67 : decode b_Pg_init 67 = .ok (.bipush 8, 2) := by decide +kernel
theorem d_Pg_init_69 : decode b_Pg_init 69 = .ok (.if_icmp .ge 22, 3) := by decide +kernel
theorem d_Pg_init_72 : decode b_Pg_init 72 = .ok (.aload_n 0, 1) := by decide +kernel
theorem d_Pg_init_73 : decode b_Pg_init 73 = .ok (.getfield 11, 3) := by decide +kernel
theorem d_Pg_init_76 : decode b_Pg_init 76 = .ok (.iload_n 1, 1) := by decide +kernel
theorem d_Pg_init_77 : decode b_Pg_init 77 = .ok (.new 9, 3) := by decide +kernel
theorem d_Pg_init_80 : decode b_Pg_init 80 = .ok (.dup, 1) := by decide +kernel
theorem d_Pg_init_81 : decode b_Pg_init 81 = .ok (.invokespecial 43, 3) := by decide +kernel
theorem d_Pg_init_84 : decode b_Pg_init 84 = .ok (.aastore, 1) := by decide +kernel
theorem d_Pg_init_85 : decode b_Pg_init 85 = .ok (.iinc 1 1, 3) := by decide +kernel
theorem d_Pg_init_88 : decode b_Pg_init 88 = .ok (.goto (-22), 3) := by decide +kernel
theorem d_Pg_init_91 : decode b_Pg_init 91 = .ok (.return_, 1) := by decide +kernel
theorem d_Pg_makeEmpty_0 : decode b_Pg_makeEmpty 0 = .ok (.aload_n 0, 1) := by decide +kernel
theorem d_Pg_makeEmpty_1 : decode b_Pg_makeEmpty 1 = .ok (.iconst 0, 1) := by decide +kernel
theorem d_Pg_makeEmpty_2 : decode b_Pg_makeEmpty 2 = .ok (.putfield 17, 3) := by decide +kernel
theorem d_Pg_makeEmpty_5 : decode b_Pg_makeEmpty 5 = .ok (.aload_n 0, 1) := by decide +kernel
theorem d_Pg_makeEmpty_6 : decode b_Pg_makeEmpty 6 = .ok (.iconst 0, 1) := by decide +kernel
theorem d_Pg_makeEmpty_7 : decode b_Pg_makeEmpty 7 = .ok (.putfield 28, 3) := by decide +kernel
theorem d_Pg_makeEmpty_10 : decode b_Pg_makeEmpty 10 = .ok (.aload_n 0, 1) := by decide +kernel
theorem d_Pg_makeEmpty_11 : decode b_Pg_makeEmpty 11 = .ok (.getfield 36, 3) := by decide +kernel
theorem d_Pg_makeEmpty_14 : decode b_Pg_makeEmpty 14 = .ok (.invokevirtual 44, 3) := by decide +kernel
theorem d_Pg_makeEmpty_17 : decode b_Pg_makeEmpty 17 = .ok (.aload_n 0, 1) := by decide +kernel
theorem d_Pg_makeEmpty_18 : decode b_Pg_makeEmpty 18 = .ok (.getfield 40, 3) := by decide +kernel
theorem d_Pg_makeEmpty_21 : decode b_Pg_makeEmpty 21 = .ok (.invokevirtual 44, 3) := by decide +kernel
theorem d_Pg_makeEmpty_24 : decode b_Pg_makeEmpty 24 = .ok (.return_, 1) := by decide +kernel
theorem d_Pg_hasShape_0 : decode b_Pg_hasShape 0 = .ok (.iload_n 1, 1) := by decide +kernel
theorem d_Pg_hasShape_1 : decode b_Pg_hasShape 1 = .ok (.ifCond .lt 15, 3) := by decide +kernel
theorem d_Pg_hasShape_4 : decode b_Pg_hasShape 4 = .ok (.iload_n 1, 1) := by decide +kernel
theorem d_Pg_hasShape_5 : decode b_Pg_hasShape 5 = .ok (.aload_n 0, 1) := by decide +kernel
theorem d_Pg_hasShape_6 : decode b_Pg_hasShape 6 = .ok (.getfield 17, 3) := by decide +kernel
theorem d_Pg_hasShape_9 : decode b_Pg_hasShape 9 = .ok (.if_icmp .ge 7, 3) := by decide +kernel
theorem d_Pg_hasShape_12 : decode b_Pg_hasShape 12 = .ok (.iconst 1, 1) := by decide +kernel
theorem d_Pg_hasShape_13 : decode b_Pg_hasShape 13 = .ok (.goto 4, 3) := by decide +kernel
theorem d_Pg_hasShape_16 : decode b_Pg_hasShape 16 = .ok (.iconst 0, 1) := by decide +kernel
theorem d_Pg_hasShape_17 : decode b_Pg_hasShape 17 = .ok (.ireturn, 1) := by decide +kernel
theorem d_Pg_layerOf_0 : decode b_Pg_layerOf 0 = .ok (.iload_n 1, 1) := by decide +kernel
theorem d_Pg_layerOf_1 : decode b_Pg_layerOf 1 = .ok (.ifCond .ne 8, 3) := by decide +kernel
theorem d_Pg_layerOf_4 : decode b_Pg_layerOf 4 = .ok (.aload_n 0, 1) := by decide +kernel
theorem d_Pg_layerOf_5 : decode b_Pg_layerOf 5 = .ok (.getfield 36, 3) := by decide +kernel
theorem d_Pg_layerOf_8 : decode b_Pg_layerOf 8 = .ok (.areturn, 1) := by decide +kernel
theorem d_Pg_layerOf_9 : decode b_Pg_layerOf 9 = .ok (.iload_n 1, 1) := by decide +kernel
theorem d_Pg_layerOf_10 : decode b_Pg_layerOf 10 = .ok (.iconst 1, 1) := by decide +kernel
theorem d_Pg_layerOf_11 : decode b_Pg_layerOf 11 = .ok (.if_icmp .ne 10, 3) := by decide +kernel
theorem d_Pg_layerOf_14 : decode b_Pg_layerOf 14 = .ok (.aload_n 0, 1) := by decide +kernel
theorem d_Pg_layerOf_15 : decode b_Pg_layerOf 15 = .ok (.getfield 40, 3) := by decide +kernel
theorem d_Pg_layerOf_18 : decode b_Pg_layerOf 18 = .ok (.goto 4, 3) := by decide +kernel
theorem d_Pg_layerOf_21 : decode b_Pg_layerOf 21 = .ok (.aconst_null, 1) := by decide +kernel
theorem d_Pg_layerOf_22 : decode b_Pg_layerOf 22 = .ok (.areturn, 1) := by decide +kernel
theorem d_Pg_addShape_0 : decode b_Pg_addShape 0 = .ok (.aload_n 0, 1) := by decide +kernel
theorem d_Pg_addShape_1 : decode b_Pg_addShape 1 = .ok (.getfield 17, 3) := by decide +kernel
theorem d_Pg_addShape_4 : decode b_Pg_addShape 4 = .ok (.bipush 8, 2) := by decide +kernel
theorem d_Pg_addShape_6 : decode b_Pg_addShape 6 = .ok (.if_icmp .lt 5, 3) := by decide +kernel
theorem d_Pg_addShape_9 : decode b_Pg_addShape 9 = .ok (.iconst (-1), 1) := by decide +kernel
theorem d_Pg_addShape_10 : decode b_Pg_addShape 10 = .ok (.ireturn, 1) := by decide +kernel
theorem d_Pg_addShape_11 : decode b_Pg_addShape 11 = .ok (.aload_n 0, 1) := by decide +kernel
theorem d_Pg_addShape_12 : decode b_Pg_addShape 12 = .ok (.getfield 11, 3) := by decide +kernel
theorem d_Pg_addShape_15 : decode b_Pg_addShape 15 = .ok (.aload_n 0, 1) := by decide +kernel
theorem d_Pg_addShape_16 : decode b_Pg_addShape 16 = .ok (.getfield 17, 3) := by decide +kernel
theorem d_Pg_addShape_19 : decode b_Pg_addShape 19 = .ok (.aaload, 1) := by decide +kernel
theorem d_Pg_addShape_20 : decode b_Pg_addShape 20 = .ok (.astore 6, 2) := by decide +kernel
theorem d_Pg_addShape_22 : decode b_Pg_addShape 22 = .ok (.aload 6, 2) := by decide +kernel
theorem d_Pg_addShape_24 : decode b_Pg_addShape 24 = .ok (.lload_n 1, 1) := by decide +kernel
theorem d_Pg_addShape_25 : decode b_Pg_addShape 25 = .ok (.putfield 47, 3) := by decide +kernel
theorem d_Pg_addShape_28 : decode b_Pg_addShape 28 = .ok (.aload 6, 2) := by decide +kernel
theorem d_Pg_addShape_30 : decode b_Pg_addShape 30 = .ok (.iload_n 3, 1) := by decide +kernel
theorem d_Pg_addShape_31 : decode b_Pg_addShape 31 = .ok (.putfield 51, 3) := by decide +kernel
theorem d_Pg_addShape_34 : decode b_Pg_addShape 34 = .ok (.aload 6, 2) := by decide +kernel
theorem d_Pg_addShape_36 : decode b_Pg_addShape 36 = .ok (.iload 4, 2) := by decide +kernel
theorem d_Pg_addShape_38 : decode b_Pg_addShape 38 = .ok (.putfield 54, 3) := by decide +kernel
theorem d_Pg_addShape_41 : decode b_Pg_addShape 41 = .ok (.aload 6, 2) := by decide +kernel
theorem d_Pg_addShape_43 : decode b_Pg_addShape 43 = .ok (.iload 5, 2) := by decide +kernel
theorem d_Pg_addShape_45 : decode b_Pg_addShape 45 = .ok (.putfield 57, 3) := by decide +kernel
theorem d_Pg_addShape_48 : decode b_Pg_addShape 48 = .ok (.aload_n 0, 1) := by decide +kernel
theorem d_Pg_addShape_49 : decode b_Pg_addShape 49 = .ok (.dup, 1) := by decide +kernel
theorem d_Pg_addShape_50 : decode b_Pg_addShape 50 = .ok (.getfield 17, 3) := by decide +kernel
theorem d_Pg_addShape_53 : decode b_Pg_addShape 53 = .ok (.iconst 1, 1) := by decide +kernel
theorem d_Pg_addShape_54 : decode b_Pg_addShape 54 = .ok (.iadd, 1) := by decide +kernel
theorem d_Pg_addShape_55 : decode b_Pg_addShape 55 = .ok (.putfield 17, 3) := by decide +kernel
theorem d_Pg_addShape_58 : decode b_Pg_addShape 58 = .ok (.aload_n 0, 1) := by decide +kernel
theorem d_Pg_addShape_59 : decode b_Pg_addShape 59 = .ok (.getfield 17, 3) := by decide +kernel
theorem d_Pg_addShape_62 : decode b_Pg_addShape 62 = .ok (.iconst 1, 1) := by decide +kernel
theorem d_Pg_addShape_63 : decode b_Pg_addShape 63 = .ok (.isub, 1) := by decide +kernel
theorem d_Pg_addShape_64 : decode b_Pg_addShape 64 = .ok (.ireturn, 1) := by decide +kernel
theorem d_Pg_addPlacing_0 : decode b_Pg_addPlacing 0 = .ok (.aload_n 0, 1) := by decide +kernel
theorem d_Pg_addPlacing_1 : decode b_Pg_addPlacing 1 = .ok (.getfield 28, 3) := by decide +kernel
theorem d_Pg_addPlacing_4 : decode b_Pg_addPlacing 4 = .ok (.bipush 20, 2) := by decide +kernel
theorem d_Pg_addPlacing_6 : decode b_Pg_addPlacing 6 = .ok (.if_icmp .lt 5, 3) := by decide +kernel
theorem d_Pg_addPlacing_9 : decode b_Pg_addPlacing 9 = .ok (.iconst (-1), 1) := by decide +kernel
theorem d_Pg_addPlacing_10 : decode b_Pg_addPlacing 10 = .ok (.ireturn, 1) := by decide +kernel
theorem d_Pg_addPlacing_11 : decode b_Pg_addPlacing 11 = .ok (.aload_n 0, 1) := by decide +kernel
theorem d_Pg_addPlacing_12 : decode b_Pg_addPlacing 12 = .ok (.getfield 21, 3) := by decide +kernel
theorem d_Pg_addPlacing_15 : decode b_Pg_addPlacing 15 = .ok (.aload_n 0, 1) := by decide +kernel
theorem d_Pg_addPlacing_16 : decode b_Pg_addPlacing 16 = .ok (.getfield 28, 3) := by decide +kernel
theorem d_Pg_addPlacing_19 : decode b_Pg_addPlacing 19 = .ok (.iload_n 1, 1) := by decide +kernel
theorem d_Pg_addPlacing_20 : decode b_Pg_addPlacing 20 = .ok (.iastore, 1) := by decide +kernel
theorem d_Pg_addPlacing_21 : decode b_Pg_addPlacing 21 = .ok (.aload_n 0, 1) := by decide +kernel
theorem d_Pg_addPlacing_22 : decode b_Pg_addPlacing 22 = .ok (.getfield 25, 3) := by decide +kernel
theorem d_Pg_addPlacing_25 : decode b_Pg_addPlacing 25 = .ok (.aload_n 0, 1) := by decide +kernel
theorem d_Pg_addPlacing_26 : decode b_Pg_addPlacing 26 = .ok (.getfield 28, 3) := by decide +kernel
theorem d_Pg_addPlacing_29 : decode b_Pg_addPlacing 29 = .ok (.iload_n 2, 1) := by decide +kernel
theorem d_Pg_addPlacing_30 : decode b_Pg_addPlacing 30 = .ok (.iastore, 1) := by decide +kernel
theorem d_Pg_addPlacing_31 : decode b_Pg_addPlacing 31 = .ok (.aload_n 0, 1) := by decide +kernel
theorem d_Pg_addPlacing_32 : decode b_Pg_addPlacing 32 = .ok (.dup, 1) := by decide +kernel
theorem d_Pg_addPlacing_33 : decode b_Pg_addPlacing 33 = .ok (.getfield 28, 3) := by decide +kernel
theorem d_Pg_addPlacing_36 : decode b_Pg_addPlacing 36 = .ok (.iconst 1, 1) := by decide +kernel
theorem d_Pg_addPlacing_37 : decode b_Pg_addPlacing 37 = .ok (.iadd, 1) := by decide +kernel
theorem d_Pg_addPlacing_38 : decode b_Pg_addPlacing 38 = .ok (.putfield 28, 3) := by decide +kernel
theorem d_Pg_addPlacing_41 : decode b_Pg_addPlacing 41 = .ok (.aload_n 0, 1) := by decide +kernel
theorem d_Pg_addPlacing_42 : decode b_Pg_addPlacing 42 = .ok (.getfield 28, 3) := by decide +kernel
theorem d_Pg_addPlacing_45 : decode b_Pg_addPlacing 45 = .ok (.ireturn, 1) := by decide +kernel
theorem d_Pg_isInked_0 : decode b_Pg_isInked 0 = .ok (.iconst 0, 1) := by decide +kernel
theorem d_Pg_isInked_1 : decode b_Pg_isInked 1 = .ok (.istore_n 3, 1) := by decide +kernel
theorem d_Pg_isInked_2 : decode b_Pg_isInked 2 = .ok (.iload_n 3, 1) := by decide +kernel
theorem d_Pg_isInked_3 : decode b_Pg_isInked 3 = .ok (.aload_n 0, 1) := by decide +kernel
theorem d_Pg_isInked_4 : decode b_Pg_isInked 4 = .ok (.getfield 28, 3) := by decide +kernel
theorem d_Pg_isInked_7 : decode b_Pg_isInked 7 = .ok (.if_icmp .ge 59, 3) := by decide +kernel
theorem d_Pg_isInked_10 : decode b_Pg_isInked 10 = .ok (.aload_n 0, 1) := by decide +kernel
theorem d_Pg_isInked_11 : decode b_Pg_isInked 11 = .ok (.getfield 25, 3) := by decide +kernel
theorem d_Pg_isInked_14 : decode b_Pg_isInked 14 = .ok (.iload_n 3, 1) := by decide +kernel
theorem d_Pg_isInked_15 : decode b_Pg_isInked 15 = .ok (.iaload, 1) := by decide +kernel
theorem d_Pg_isInked_16 : decode b_Pg_isInked 16 = .ok (.bipush 16, 2) := by decide +kernel
theorem d_Pg_isInked_18 : decode b_Pg_isInked 18 = .ok (.idiv, 1) := by decide +kernel
theorem d_Pg_isInked_19 : decode b_Pg_isInked 19 = .ok (.istore 4, 2) := by decide +kernel
theorem d_Pg_isInked_21 : decode b_Pg_isInked 21 = .ok (.aload_n 0, 1) := by decide +kernel
theorem d_Pg_isInked_22 : decode b_Pg_isInked 22 = .ok (.getfield 25, 3) := by decide +kernel
theorem d_Pg_isInked_25 : decode b_Pg_isInked 25 = .ok (.iload_n 3, 1) := by decide +kernel
theorem d_Pg_isInked_26 : decode b_Pg_isInked 26 = .ok (.iaload, 1) := by decide +kernel
theorem d_Pg_isInked_27 : decode b_Pg_isInked 27 = .ok (.bipush 16, 2) := by decide +kernel
theorem d_Pg_isInked_29 : decode b_Pg_isInked 29 = .ok (.irem, 1) := by decide +kernel
theorem d_Pg_isInked_30 : decode b_Pg_isInked 30 = .ok (.istore 5, 2) := by decide +kernel
theorem d_Pg_isInked_32 : decode b_Pg_isInked 32 = .ok (.aload_n 0, 1) := by decide +kernel
theorem d_Pg_isInked_33 : decode b_Pg_isInked 33 = .ok (.getfield 11, 3) := by decide +kernel
theorem d_Pg_isInked_36 : decode b_Pg_isInked 36 = .ok (.aload_n 0, 1) := by decide +kernel
theorem d_Pg_isInked_37 : decode b_Pg_isInked 37 = .ok (.getfield 21, 3) := by decide +kernel
theorem d_Pg_isInked_40 : decode b_Pg_isInked 40 = .ok (.iload_n 3, 1) := by decide +kernel
theorem d_Pg_isInked_41 : decode b_Pg_isInked 41 = .ok (.iaload, 1) := by decide +kernel
theorem d_Pg_isInked_42 : decode b_Pg_isInked 42 = .ok (.aaload, 1) := by decide +kernel
theorem d_Pg_isInked_43 : decode b_Pg_isInked 43 = .ok (.iload_n 1, 1) := by decide +kernel
theorem d_Pg_isInked_44 : decode b_Pg_isInked 44 = .ok (.iload 4, 2) := by decide +kernel
theorem d_Pg_isInked_46 : decode b_Pg_isInked 46 = .ok (.isub, 1) := by decide +kernel
theorem d_Pg_isInked_47 : decode b_Pg_isInked 47 = .ok (.iload_n 2, 1) := by decide +kernel
theorem d_Pg_isInked_48 : decode b_Pg_isInked 48 = .ok (.iload 5, 2) := by decide +kernel
theorem d_Pg_isInked_50 : decode b_Pg_isInked 50 = .ok (.isub, 1) := by decide +kernel
theorem d_Pg_isInked_51 : decode b_Pg_isInked 51 = .ok (.invokevirtual 60, 3) := by decide +kernel
theorem d_Pg_isInked_54 : decode b_Pg_isInked 54 = .ok (.iconst 1, 1) := by decide +kernel
theorem d_Pg_isInked_55 : decode b_Pg_isInked 55 = .ok (.if_icmp .ne 5, 3) := by decide +kernel
theorem d_Pg_isInked_58 : decode b_Pg_isInked 58 = .ok (.iconst 1, 1) := by decide +kernel
theorem d_Pg_isInked_59 : decode b_Pg_isInked 59 = .ok (.ireturn, 1) := by decide +kernel
theorem d_Pg_isInked_60 : decode b_Pg_isInked 60 = .ok (.iinc 3 1, 3) := by decide +kernel
theorem d_Pg_isInked_63 : decode b_Pg_isInked 63 = .ok (.goto (-61), 3) := by decide +kernel
theorem d_Pg_isInked_66 : decode b_Pg_isInked 66 = .ok (.iconst 0, 1) := by decide +kernel
theorem d_Pg_isInked_67 : decode b_Pg_isInked 67 = .ok (.ireturn, 1) := by decide +kernel
theorem d_Pg_codeShape_0 : decode b_Pg_codeShape 0 = .ok (.aload_n 0, 1) := by decide +kernel
theorem d_Pg_codeShape_1 : decode b_Pg_codeShape 1 = .ok (.getfield 11, 3) := by decide +kernel
theorem d_Pg_codeShape_4 : decode b_Pg_codeShape 4 = .ok (.iload_n 1, 1) := by decide +kernel
theorem d_Pg_codeShape_5 : decode b_Pg_codeShape 5 = .ok (.aaload, 1) := by decide +kernel
theorem d_Pg_codeShape_6 : decode b_Pg_codeShape 6 = .ok (.astore_n 3, 1) := by decide +kernel
theorem d_Pg_codeShape_7 : decode b_Pg_codeShape 7 = .ok (.aload_n 0, 1) := by decide +kernel
theorem d_Pg_codeShape_8 : decode b_Pg_codeShape 8 = .ok (.aload_n 3, 1) := by decide +kernel
theorem d_Pg_codeShape_9 : decode b_Pg_codeShape 9 = .ok (.getfield 57, 3) := by decide +kernel
theorem d_Pg_codeShape_12 : decode b_Pg_codeShape 12 = .ok (.invokevirtual 64, 3) := by decide +kernel
theorem d_Pg_codeShape_15 : decode b_Pg_codeShape 15 = .ok (.ifCond .eq 15, 3) := by decide +kernel
theorem d_Pg_codeShape_18 : decode b_Pg_codeShape 18 = .ok (.aload_n 0, 1) := by decide +kernel
theorem d_Pg_codeShape_19 : decode b_Pg_codeShape 19 = .ok (.getfield 11, 3) := by decide +kernel
theorem d_Pg_codeShape_22 : decode b_Pg_codeShape 22 = .ok (.aload_n 3, 1) := by decide +kernel
theorem d_Pg_codeShape_23 : decode b_Pg_codeShape 23 = .ok (.getfield 57, 3) := by decide +kernel
theorem d_Pg_codeShape_26 : decode b_Pg_codeShape 26 = .ok (.aaload, 1) := by decide +kernel
theorem d_Pg_codeShape_27 : decode b_Pg_codeShape 27 = .ok (.goto 4, 3) := by decide +kernel
theorem d_Pg_codeShape_30 : decode b_Pg_codeShape 30 = .ok (.aconst_null, 1) := by decide +kernel
theorem d_Pg_codeShape_31 : decode b_Pg_codeShape 31 = .ok (.astore 4, 2) := by decide +kernel
theorem d_Pg_codeShape_33 : decode b_Pg_codeShape 33 = .ok (.iconst 0, 1) := by decide +kernel
theorem d_Pg_codeShape_34 : decode b_Pg_codeShape 34 = .ok (.istore 5, 2) := by decide +kernel
theorem d_Pg_codeShape_36 : decode b_Pg_codeShape 36 = .ok (.iload 5, 2) := by decide +kernel
theorem d_Pg_codeShape_38 : decode b_Pg_codeShape 38 = .ok (.aload_n 3, 1) := by decide +kernel
theorem d_Pg_codeShape_39 : decode b_Pg_codeShape 39 = .ok (.getfield 54, 3) := by decide +kernel
theorem d_Pg_codeShape_42 : decode b_Pg_codeShape 42 = .ok (.if_icmp .ge 92, 3) := by decide +kernel
theorem d_Pg_codeShape_45 : decode b_Pg_codeShape 45 = .ok (.iconst 0, 1) := by decide +kernel
theorem d_Pg_codeShape_46 : decode b_Pg_codeShape 46 = .ok (.istore 6, 2) := by decide +kernel
theorem d_Pg_codeShape_48 : decode b_Pg_codeShape 48 = .ok (.iload 6, 2) := by decide +kernel
theorem d_Pg_codeShape_50 : decode b_Pg_codeShape 50 = .ok (.aload_n 3, 1) := by decide +kernel
theorem d_Pg_codeShape_51 : decode b_Pg_codeShape 51 = .ok (.getfield 51, 3) := by decide +kernel
theorem d_Pg_codeShape_54 : decode b_Pg_codeShape 54 = .ok (.if_icmp .ge 74, 3) := by decide +kernel
theorem d_Pg_codeShape_57 : decode b_Pg_codeShape 57 = .ok (.aload 4, 2) := by decide +kernel
theorem d_Pg_codeShape_59 : decode b_Pg_codeShape 59 = .ok (.ifnonnull 14, 3) := by decide +kernel
theorem d_Pg_codeShape_62 : decode b_Pg_codeShape 62 = .ok (.aload_n 3, 1) := by decide +kernel
theorem d_Pg_codeShape_63 : decode b_Pg_codeShape 63 = .ok (.iload 6, 2) := by decide +kernel
theorem d_Pg_codeShape_65 : decode b_Pg_codeShape 65 = .ok (.iload 5, 2) := by decide +kernel
theorem d_Pg_codeShape_67 : decode b_Pg_codeShape 67 = .ok (.invokevirtual 68, 3) := by decide +kernel
theorem d_Pg_codeShape_70 : decode b_Pg_codeShape 70 = .ok (.goto 13, 3) := by decide +kernel
theorem d_Pg_codeShape_73 : decode b_Pg_codeShape 73 = .ok (.aload_n 3, 1) := by decide +kernel
theorem d_Pg_codeShape_74 : decode b_Pg_codeShape 74 = .ok (.aload 4, 2) := by decide +kernel
theorem d_Pg_codeShape_76 : decode b_Pg_codeShape 76 = .ok (.iload 6, 2) := by decide +kernel
theorem d_Pg_codeShape_78 : decode b_Pg_codeShape 78 = .ok (.iload 5, 2) := by decide +kernel
theorem d_Pg_codeShape_80 : decode b_Pg_codeShape 80 = .ok (.invokevirtual 71, 3) := by decide +kernel
theorem d_Pg_codeShape_83 : decode b_Pg_codeShape 83 = .ok (.istore 7, 2) := by decide +kernel
theorem d_Pg_codeShape_85 : decode b_Pg_codeShape 85 = .ok (.aload_n 2, 1) := by decide +kernel
theorem d_Pg_codeShape_86 : decode b_Pg_codeShape 86 = .ok (.iload 7, 2) := by decide +kernel
theorem d_Pg_codeShape_88 : decode b_Pg_codeShape 88 = .ok (.aload_n 3, 1) := by decide +kernel
theorem d_Pg_codeShape_89 : decode b_Pg_codeShape 89 = .ok (.iload 6, 2) := by decide +kernel
theorem d_Pg_codeShape_91 : decode b_Pg_codeShape 91 = .ok (.iload 5, 2) := by decide +kernel
theorem d_Pg_codeShape_93 : decode b_Pg_codeShape 93 = .ok (.invokevirtual 60, 3) := by decide +kernel
theorem d_Pg_codeShape_96 : decode b_Pg_codeShape 96 = .ok (.invokevirtual 75, 3) := by decide +kernel
theorem d_Pg_codeShape_99 : decode b_Pg_codeShape 99 = .ok (.iconst 1, 1) := by decide +kernel
theorem d_Pg_codeShape_100 : decode b_Pg_codeShape 100 = .ok (.if_icmp .ne 22, 3) := by decide +kernel
theorem d_Pg_codeShape_103 : decode b_Pg_codeShape 103 = .ok (.aload_n 3, 1) := by decide +kernel
theorem d_Pg_codeShape_104 : decode b_Pg_codeShape 104 = .ok (.dup, 1) := by decide +kernel
theorem d_Pg_codeShape_105 : decode b_Pg_codeShape 105 = .ok (.getfield 47, 3) := by decide +kernel
theorem d_Pg_codeShape_108 : decode b_Pg_codeShape 108 = .ok (.lconst 1, 1) := by decide +kernel
theorem d_Pg_codeShape_109 : decode b_Pg_codeShape 109 = .ok (.bipush 8, 2) := by decide +kernel
theorem d_Pg_codeShape_111 : decode b_Pg_codeShape 111 = .ok (.iload 5, 2) := by decide +kernel
theorem d_Pg_codeShape_113 : decode b_Pg_codeShape 113 = .ok (.imul, 1) := by decide +kernel
theorem d_Pg_codeShape_114 : decode b_Pg_codeShape 114 = .ok (.iload 6, 2) := by decide +kernel
theorem d_Pg_codeShape_116 : decode b_Pg_codeShape 116 = .ok (.iadd, 1) := by decide +kernel
theorem d_Pg_codeShape_117 : decode b_Pg_codeShape 117 = .ok (.lshl, 1) := by decide +kernel
theorem d_Pg_codeShape_118 : decode b_Pg_codeShape 118 = .ok (.lor, 1) := by decide +kernel
theorem d_Pg_codeShape_119 : decode b_Pg_codeShape 119 = .ok (.putfield 47, 3) := by decide +kernel
theorem d_Pg_codeShape_122 : decode b_Pg_codeShape 122 = .ok (.iinc 6 1, 3) := by decide +kernel
theorem d_Pg_codeShape_125 : decode b_Pg_codeShape 125 = .ok (.goto (-77), 3) := by decide +kernel
theorem d_Pg_codeShape_128 : decode b_Pg_codeShape 128 = .ok (.iinc 5 1, 3) := by decide +kernel
theorem d_Pg_codeShape_131 : decode b_Pg_codeShape 131 = .ok (.goto (-95), 3) := by decide +kernel
theorem d_Pg_codeShape_134 : decode b_Pg_codeShape 134 = .ok (.return_, 1) := by decide +kernel
theorem d_Sh_init_0 : decode b_Sh_init 0 = .ok (.aload_n 0, 1) := by decide +kernel
theorem d_Sh_init_1 : decode b_Sh_init 1 = .ok (.invokespecial 3, 3) := by decide +kernel
theorem d_Sh_init_4 : decode b_Sh_init 4 = .ok (.aload_n 0, 1) := by decide +kernel
theorem d_Sh_init_5 : decode b_Sh_init 5 = .ok (.lconst 0, 1) := by decide +kernel
theorem d_Sh_init_6 : decode b_Sh_init 6 = .ok (.putfield 9, 3) := by decide +kernel
theorem d_Sh_init_9 : decode b_Sh_init 9 = .ok (.aload_n 0, 1) := by decide +kernel
theorem d_Sh_init_10 : decode b_Sh_init 10 = .ok (.iconst 1, 1) := by decide +kernel
theorem d_Sh_init_11 : decode b_Sh_init 11 = .ok (.putfield 15, 3) := by decide +kernel
theorem d_Sh_init_14 : decode b_Sh_init 14 = .ok (.aload_n 0, 1) := by decide +kernel
theorem d_Sh_init_15 : decode b_Sh_init 15 = .ok (.iconst 1, 1) := by decide +kernel
theorem d_Sh_init_16 : decode b_Sh_init 16 = .ok (.putfield 19, 3) := by decide +kernel
theorem d_Sh_init_19 : decode b_Sh_init 19 = .ok (.aload_n 0, 1) := by decide +kernel
theorem d_Sh_init_20 : decode b_Sh_init 20 = .ok (.iconst (-1), 1) := by decide +kernel
theorem d_Sh_init_21 : decode b_Sh_init 21 = .ok (.putfield 22, 3) := by decide +kernel
theorem d_Sh_init_24 : decode b_Sh_init 24 = .ok (.return_, 1) := by decide +kernel
theorem d_Sh_bitAt_0 : decode b_Sh_bitAt 0 = .ok (.iload_n 1, 1) := by decide +kernel
theorem d_Sh_bitAt_1 : decode b_Sh_bitAt 1 = .ok (.ifCond .lt 23, 3) := by decide +kernel
theorem d_Sh_bitAt_4 : decode b_Sh_bitAt 4 = .ok (.iload_n 1, 1) := by decide +kernel
theorem d_Sh_bitAt_5 : decode b_Sh_bitAt 5 = .ok (.aload_n 0, 1) := by decide +kernel
theorem d_Sh_bitAt_6 : decode b_Sh_bitAt 6 = .ok (.getfield 15, 3) := by decide +kernel
theorem d_Sh_bitAt_9 : decode b_Sh_bitAt 9 = .ok (.if_icmp .ge 15, 3) := by decide +kernel
theorem d_Sh_bitAt_12 : decode b_Sh_bitAt 12 = .ok (.iload_n 2, 1) := by decide +kernel
theorem d_Sh_bitAt_13 : decode b_Sh_bitAt 13 = .ok (.ifCond .lt 11, 3) := by decide +kernel
theorem d_Sh_bitAt_16 : decode b_Sh_bitAt 16 = .ok (.iload_n 2, 1) := by decide +kernel
theorem d_Sh_bitAt_17 : decode b_Sh_bitAt 17 = .ok (.aload_n 0, 1) := by decide +kernel
theorem d_Sh_bitAt_18 : decode b_Sh_bitAt 18 = .ok (.getfield 19, 3) := by decide +kernel
theorem d_Sh_bitAt_21 : decode b_Sh_bitAt 21 = .ok (.if_icmp .lt 5, 3) := by decide +kernel
theorem d_Sh_bitAt_24 : decode b_Sh_bitAt 24 = .ok (.iconst 0, 1) := by decide +kernel
theorem d_Sh_bitAt_25 : decode b_Sh_bitAt 25 = .ok (.ireturn, 1) := by decide +kernel
theorem d_Sh_bitAt_26 : decode b_Sh_bitAt 26 = .ok (.aload_n 0, 1) := by decide +kernel
theorem d_Sh_bitAt_27 : decode b_Sh_bitAt 27 = .ok (.getfield 9, 3) := by decide +kernel
theorem d_Sh_bitAt_30 : decode b_Sh_bitAt 30 = .ok (.bipush 8, 2) := by decide +kernel
theorem d_Sh_bitAt_32 : decode b_Sh_bitAt 32 = .ok (.iload_n 2, 1) := by decide +kernel
theorem d_Sh_bitAt_33 : decode b_Sh_bitAt 33 = .ok (.imul, 1) := by decide +kernel
theorem d_Sh_bitAt_34 : decode b_Sh_bitAt 34 = .ok (.iload_n 1, 1) := by decide +kernel
theorem d_Sh_bitAt_35 : decode b_Sh_bitAt 35 = .ok (.iadd, 1) := by decide +kernel
theorem d_Sh_bitAt_36 : decode b_Sh_bitAt 36 = .ok (.lushr, 1) := by decide +kernel
theorem d_Sh_bitAt_37 : decode b_Sh_bitAt 37 = .ok (.l2i, 1) := by decide +kernel
theorem d_Sh_bitAt_38 : decode b_Sh_bitAt 38 = .ok (.iconst 1, 1) := by decide +kernel
theorem d_Sh_bitAt_39 : decode b_Sh_bitAt 39 = .ok (.iand, 1) := by decide +kernel
theorem d_Sh_bitAt_40 : decode b_Sh_bitAt 40 = .ok (.ireturn, 1) := by decide +kernel
theorem d_Sh_contextAlone_0 : decode b_Sh_contextAlone 0 = .ok (.aload_n 0, 1) := by decide +kernel
theorem d_Sh_contextAlone_1 : decode b_Sh_contextAlone 1 = .ok (.iload_n 1, 1) := by decide +kernel
theorem d_Sh_contextAlone_2 : decode b_Sh_contextAlone 2 = .ok (.iconst 1, 1) := by decide +kernel
theorem d_Sh_contextAlone_3 : decode b_Sh_contextAlone 3 = .ok (.isub, 1) := by decide +kernel
theorem d_Sh_contextAlone_4 : decode b_Sh_contextAlone 4 = .ok (.iload_n 2, 1) := by decide +kernel
theorem d_Sh_contextAlone_5 : decode b_Sh_contextAlone 5 = .ok (.invokevirtual 25, 3) := by decide +kernel
theorem d_Sh_contextAlone_8 : decode b_Sh_contextAlone 8 = .ok (.iconst 2, 1) := by decide +kernel
theorem d_Sh_contextAlone_9 : decode b_Sh_contextAlone 9 = .ok (.aload_n 0, 1) := by decide +kernel
theorem d_Sh_contextAlone_10 : decode b_Sh_contextAlone 10 = .ok (.iload_n 1, 1) := by decide +kernel
theorem d_Sh_contextAlone_11 : decode b_Sh_contextAlone 11 = .ok (.iconst 1, 1) := by decide +kernel
theorem d_Sh_contextAlone_12 : decode b_Sh_contextAlone 12 = .ok (.isub, 1) := by decide +kernel
theorem d_Sh_contextAlone_13 : decode b_Sh_contextAlone 13 = .ok (.iload_n 2, 1) := by decide +kernel
theorem d_Sh_contextAlone_14 : decode b_Sh_contextAlone 14 = .ok (.iconst 1, 1) := by decide +kernel
theorem d_Sh_contextAlone_15 : decode b_Sh_contextAlone 15 = .ok (.isub, 1) := by decide +kernel
theorem d_Sh_contextAlone_16 : decode b_Sh_contextAlone 16 = .ok (.invokevirtual 25, 3) := by decide +kernel
theorem d_Sh_contextAlone_19 : decode b_Sh_contextAlone 19 = .ok (.imul, 1) := by decide +kernel
theorem d_Sh_contextAlone_20 : decode b_Sh_contextAlone 20 = .ok (.iadd, 1) := by decide +kernel
theorem d_Sh_contextAlone_21 : decode b_Sh_contextAlone 21 = .ok (.iconst 4, 1) := by decide +kernel
theorem d_Sh_contextAlone_22 : decode b_Sh_contextAlone 22 = .ok (.aload_n 0, 1) := by decide +kernel
theorem d_Sh_contextAlone_23 : decode b_Sh_contextAlone 23 = .ok (.iload_n 1, 1) := by decide +kernel
theorem d_Sh_contextAlone_24 : decode b_Sh_contextAlone 24 = .ok (.iload_n 2, 1) := by decide +kernel
theorem d_Sh_contextAlone_25 : decode b_Sh_contextAlone 25 = .ok (.iconst 1, 1) := by decide +kernel
theorem d_Sh_contextAlone_26 : decode b_Sh_contextAlone 26 = .ok (.isub, 1) := by decide +kernel
theorem d_Sh_contextAlone_27 : decode b_Sh_contextAlone 27 = .ok (.invokevirtual 25, 3) := by decide +kernel
theorem d_Sh_contextAlone_30 : decode b_Sh_contextAlone 30 = .ok (.imul, 1) := by decide +kernel
theorem d_Sh_contextAlone_31 : decode b_Sh_contextAlone 31 = .ok (.iadd, 1) := by decide +kernel
theorem d_Sh_contextAlone_32 : decode b_Sh_contextAlone 32 = .ok (.bipush 8, 2) := by decide +kernel
theorem d_Sh_contextAlone_34 : decode b_Sh_contextAlone 34 = .ok (.aload_n 0, 1) := by decide +kernel
theorem d_Sh_contextAlone_35 : decode b_Sh_contextAlone 35 = .ok (.iload_n 1, 1) := by decide +kernel
theorem d_Sh_contextAlone_36 : decode b_Sh_contextAlone 36 = .ok (.iconst 1, 1) := by decide +kernel
theorem d_Sh_contextAlone_37 : decode b_Sh_contextAlone 37 = .ok (.iadd, 1) := by decide +kernel
theorem d_Sh_contextAlone_38 : decode b_Sh_contextAlone 38 = .ok (.iload_n 2, 1) := by decide +kernel
theorem d_Sh_contextAlone_39 : decode b_Sh_contextAlone 39 = .ok (.iconst 1, 1) := by decide +kernel
theorem d_Sh_contextAlone_40 : decode b_Sh_contextAlone 40 = .ok (.isub, 1) := by decide +kernel
theorem d_Sh_contextAlone_41 : decode b_Sh_contextAlone 41 = .ok (.invokevirtual 25, 3) := by decide +kernel
theorem d_Sh_contextAlone_44 : decode b_Sh_contextAlone 44 = .ok (.imul, 1) := by decide +kernel
theorem d_Sh_contextAlone_45 : decode b_Sh_contextAlone 45 = .ok (.iadd, 1) := by decide +kernel
theorem d_Sh_contextAlone_46 : decode b_Sh_contextAlone 46 = .ok (.ireturn, 1) := by decide +kernel
theorem d_Sh_contextWith_0 : decode b_Sh_contextWith 0 = .ok (.bipush 16, 2) := by decide +kernel
theorem d_Sh_contextWith_2 : decode b_Sh_contextWith 2 = .ok (.aload_n 0, 1) := by decide +kernel
theorem d_Sh_contextWith_3 : decode b_Sh_contextWith 3 = .ok (.iload_n 2, 1) := by decide +kernel
theorem d_Sh_contextWith_4 : decode b_Sh_contextWith 4 = .ok (.iconst 1, 1) := by decide +kernel
theorem d_Sh_contextWith_5 : decode b_Sh_contextWith 5 = .ok (.isub, 1) := by decide +kernel
theorem d_Sh_contextWith_6 : decode b_Sh_contextWith 6 = .ok (.iload_n 3, 1) := by decide +kernel
theorem d_Sh_contextWith_7 : decode b_Sh_contextWith 7 = .ok (.invokevirtual 25, 3) := by decide +kernel
theorem d_Sh_contextWith_10 : decode b_Sh_contextWith 10 = .ok (.iadd, 1) := by decide +kernel
theorem d_Sh_contextWith_11 : decode b_Sh_contextWith 11 = .ok (.iconst 2, 1) := by decide +kernel
theorem d_Sh_contextWith_12 : decode b_Sh_contextWith 12 = .ok (.aload_n 0, 1) := by decide +kernel
theorem d_Sh_contextWith_13 : decode b_Sh_contextWith 13 = .ok (.iload_n 2, 1) := by decide +kernel
theorem d_Sh_contextWith_14 : decode b_Sh_contextWith 14 = .ok (.iload_n 3, 1) := by decide +kernel
theorem d_Sh_contextWith_15 : decode b_Sh_contextWith 15 = .ok (.iconst 1, 1) := by decide +kernel
theorem d_Sh_contextWith_16 : decode b_Sh_contextWith 16 = .ok (.isub, 1) := by decide +kernel
theorem d_Sh_contextWith_17 : decode b_Sh_contextWith 17 = .ok (.invokevirtual 25, 3) := by decide +kernel
theorem d_Sh_contextWith_20 : decode b_Sh_contextWith 20 = .ok (.imul, 1) := by decide +kernel
theorem d_Sh_contextWith_21 : decode b_Sh_contextWith 21 = .ok (.iadd, 1) := by decide +kernel
theorem d_Sh_contextWith_22 : decode b_Sh_contextWith 22 = .ok (.iconst 4, 1) := by decide +kernel
theorem d_Sh_contextWith_23 : decode b_Sh_contextWith 23 = .ok (.aload_n 1, 1) := by decide +kernel
theorem d_Sh_contextWith_24 : decode b_Sh_contextWith 24 = .ok (.iload_n 2, 1) := by decide +kernel
theorem d_Sh_contextWith_25 : decode b_Sh_contextWith 25 = .ok (.iload_n 3, 1) := by decide +kernel
theorem d_Sh_contextWith_26 : decode b_Sh_contextWith 26 = .ok (.invokevirtual 25, 3) := by decide +kernel
theorem d_Sh_contextWith_29 : decode b_Sh_contextWith 29 = .ok (.imul, 1) := by decide +kernel
theorem d_Sh_contextWith_30 : decode b_Sh_contextWith 30 = .ok (.iadd, 1) := by decide +kernel
theorem d_Sh_contextWith_31 : decode b_Sh_contextWith 31 = .ok (.bipush 8, 2) := by decide +kernel
theorem d_Sh_contextWith_33 : decode b_Sh_contextWith 33 = .ok (.aload_n 1, 1) := by decide +kernel
theorem d_Sh_contextWith_34 : decode b_Sh_contextWith 34 = .ok (.iload_n 2, 1) := by decide +kernel
theorem d_Sh_contextWith_35 : decode b_Sh_contextWith 35 = .ok (.iconst 1, 1) := by decide +kernel
theorem d_Sh_contextWith_36 : decode b_Sh_contextWith 36 = .ok (.iadd, 1) := by decide +kernel
theorem d_Sh_contextWith_37 : decode b_Sh_contextWith 37 = .ok (.iload_n 3, 1) := by decide +kernel
theorem d_Sh_contextWith_38 : decode b_Sh_contextWith 38 = .ok (.invokevirtual 25, 3) := by decide +kernel
theorem d_Sh_contextWith_41 : decode b_Sh_contextWith 41 = .ok (.imul, 1) := by decide +kernel
theorem d_Sh_contextWith_42 : decode b_Sh_contextWith 42 = .ok (.iadd, 1) := by decide +kernel
theorem d_Sh_contextWith_43 : decode b_Sh_contextWith 43 = .ok (.bipush 16, 2) := by decide +kernel
theorem d_Sh_contextWith_45 : decode b_Sh_contextWith 45 = .ok (.aload_n 1, 1) := by decide +kernel
theorem d_Sh_contextWith_46 : decode b_Sh_contextWith 46 = .ok (.iload_n 2, 1) := by decide +kernel
theorem d_Sh_contextWith_47 : decode b_Sh_contextWith 47 = .ok (.iload_n 3, 1) := by decide +kernel
theorem d_Sh_contextWith_48 : decode b_Sh_contextWith 48 = .ok (.iconst 1, 1) := by decide +kernel
theorem d_Sh_contextWith_49 : decode b_Sh_contextWith 49 = .ok (.iadd, 1) := by decide +kernel
theorem d_Sh_contextWith_50 : decode b_Sh_contextWith 50 = .ok (.invokevirtual 25, 3) := by decide +kernel
theorem d_Sh_contextWith_53 : decode b_Sh_contextWith 53 = .ok (.imul, 1) := by decide +kernel
theorem d_Sh_contextWith_54 : decode b_Sh_contextWith 54 = .ok (.iadd, 1) := by decide +kernel
theorem d_Sh_contextWith_55 : decode b_Sh_contextWith 55 = .ok (.ireturn, 1) := by decide +kernel
theorem d_Law_law_0 : decode code 0 = .ok (.new 7, 3) := by decide +kernel
theorem d_Law_law_3 : decode code 3 = .ok (.dup, 1) := by decide +kernel
theorem d_Law_law_4 : decode code 4 = .ok (.invokespecial 9, 3) := by decide +kernel
theorem d_Law_law_7 : decode code 7 = .ok (.astore_n 1, 1) := by decide +kernel
theorem d_Law_law_8 : decode code 8 = .ok (.new 10, 3) := by decide +kernel
theorem d_Law_law_11 : decode code 11 = .ok (.dup, 1) := by decide +kernel
theorem d_Law_law_12 : decode code 12 = .ok (.invokespecial 12, 3) := by decide +kernel
theorem d_Law_law_15 : decode code 15 = .ok (.astore_n 2, 1) := by decide +kernel
theorem d_Law_law_16 : decode code 16 = .ok (.iconst 0, 1) := by decide +kernel
theorem d_Law_law_17 : decode code 17 = .ok (.istore_n 3, 1) := by decide +kernel
theorem d_Law_law_18 : decode code 18 = .ok (.iload_n 3, 1) := by decide +kernel
theorem d_Law_law_19 : decode code 19 = .ok (.aload_n 0, 1) := by decide +kernel
theorem d_Law_law_20 : decode code 20 = .ok (.arraylength, 1) := by decide +kernel
theorem d_Law_law_21 : decode code 21 = .ok (.bipush 6, 2) := by decide +kernel
theorem d_Law_law_23 : decode code 23 = .ok (.isub, 1) := by decide +kernel
theorem d_Law_law_24 : decode code 24 = .ok (.if_icmp .gt 638, 3) := by decide +kernel
theorem d_Law_law_27 : decode code 27 = .ok (.aload_n 0, 1) := by decide +kernel
theorem d_Law_law_28 : decode code 28 = .ok (.iload_n 3, 1) := by decide +kernel
theorem d_Law_law_29 : decode code 29 = .ok (.iaload, 1) := by decide +kernel
theorem d_Law_law_30 : decode code 30 = .ok (.bipush 31, 2) := by decide +kernel
theorem d_Law_law_32 : decode code 32 = .ok (.iand, 1) := by decide +kernel
theorem d_Law_law_116 : decode code 116 = .ok (.aload_n 1, 1) := by decide +kernel
theorem d_Law_law_117 : decode code 117 = .ok (.aload_n 0, 1) := by decide +kernel
theorem d_Law_law_118 : decode code 118 = .ok (.iload_n 3, 1) := by decide +kernel
theorem d_Law_law_119 : decode code 119 = .ok (.iconst 1, 1) := by decide +kernel
theorem d_Law_law_120 : decode code 120 = .ok (.iadd, 1) := by decide +kernel
theorem d_Law_law_121 : decode code 121 = .ok (.iaload, 1) := by decide +kernel
theorem d_Law_law_122 : decode code 122 = .ok (.i2l, 1) := by decide +kernel
theorem d_Law_law_123 : decode code 123 = .ok (.bipush 32, 2) := by decide +kernel
theorem d_Law_law_125 : decode code 125 = .ok (.lshl, 1) := by decide +kernel
theorem d_Law_law_126 : decode code 126 = .ok (.aload_n 0, 1) := by decide +kernel
theorem d_Law_law_127 : decode code 127 = .ok (.iload_n 3, 1) := by decide +kernel
theorem d_Law_law_128 : decode code 128 = .ok (.iconst 2, 1) := by decide +kernel
theorem d_Law_law_129 : decode code 129 = .ok (.iadd, 1) := by decide +kernel
theorem d_Law_law_130 : decode code 130 = .ok (.iaload, 1) := by decide +kernel
theorem d_Law_law_131 : decode code 131 = .ok (.i2l, 1) := by decide +kernel
theorem d_Law_law_132 : decode code 132 = .ok (.ldc2_w 13, 3) := by decide +kernel
theorem d_Law_law_135 : decode code 135 = .ok (.land, 1) := by decide +kernel
theorem d_Law_law_136 : decode code 136 = .ok (.lor, 1) := by decide +kernel
theorem d_Law_law_137 : decode code 137 = .ok (.aload_n 0, 1) := by decide +kernel
theorem d_Law_law_138 : decode code 138 = .ok (.iload_n 3, 1) := by decide +kernel
theorem d_Law_law_139 : decode code 139 = .ok (.iconst 3, 1) := by decide +kernel
theorem d_Law_law_140 : decode code 140 = .ok (.iadd, 1) := by decide +kernel
theorem d_Law_law_141 : decode code 141 = .ok (.iaload, 1) := by decide +kernel
theorem d_Law_law_142 : decode code 142 = .ok (.aload_n 0, 1) := by decide +kernel
theorem d_Law_law_143 : decode code 143 = .ok (.iload_n 3, 1) := by decide +kernel
theorem d_Law_law_144 : decode code 144 = .ok (.iconst 4, 1) := by decide +kernel
theorem d_Law_law_145 : decode code 145 = .ok (.iadd, 1) := by decide +kernel
theorem d_Law_law_146 : decode code 146 = .ok (.iaload, 1) := by decide +kernel
theorem d_Law_law_147 : decode code 147 = .ok (.aload_n 0, 1) := by decide +kernel
theorem d_Law_law_148 : decode code 148 = .ok (.iload_n 3, 1) := by decide +kernel
theorem d_Law_law_149 : decode code 149 = .ok (.iconst 5, 1) := by decide +kernel
theorem d_Law_law_150 : decode code 150 = .ok (.iadd, 1) := by decide +kernel
theorem d_Law_law_151 : decode code 151 = .ok (.iaload, 1) := by decide +kernel
theorem d_Law_law_152 : decode code 152 = .ok (.invokevirtual 15, 3) := by decide +kernel
theorem d_Law_law_155 : decode code 155 = .ok (.aload_n 2, 1) := by decide +kernel
theorem d_Law_law_156 : decode code 156 = .ok (.aload_n 0, 1) := by decide +kernel
theorem d_Law_law_157 : decode code 157 = .ok (.iload_n 3, 1) := by decide +kernel
theorem d_Law_law_158 : decode code 158 = .ok (.iconst 1, 1) := by decide +kernel
theorem d_Law_law_159 : decode code 159 = .ok (.iadd, 1) := by decide +kernel
theorem d_Law_law_160 : decode code 160 = .ok (.iaload, 1) := by decide +kernel
theorem d_Law_law_161 : decode code 161 = .ok (.i2l, 1) := by decide +kernel
theorem d_Law_law_162 : decode code 162 = .ok (.bipush 32, 2) := by decide +kernel
theorem d_Law_law_164 : decode code 164 = .ok (.lshl, 1) := by decide +kernel
theorem d_Law_law_165 : decode code 165 = .ok (.aload_n 0, 1) := by decide +kernel
theorem d_Law_law_166 : decode code 166 = .ok (.iload_n 3, 1) := by decide +kernel
theorem d_Law_law_167 : decode code 167 = .ok (.iconst 2, 1) := by decide +kernel
theorem d_Law_law_168 : decode code 168 = .ok (.iadd, 1) := by decide +kernel
theorem d_Law_law_169 : decode code 169 = .ok (.iaload, 1) := by decide +kernel
theorem d_Law_law_170 : decode code 170 = .ok (.i2l, 1) := by decide +kernel
theorem d_Law_law_171 : decode code 171 = .ok (.ldc2_w 13, 3) := by decide +kernel
theorem d_Law_law_174 : decode code 174 = .ok (.land, 1) := by decide +kernel
theorem d_Law_law_175 : decode code 175 = .ok (.lor, 1) := by decide +kernel
theorem d_Law_law_176 : decode code 176 = .ok (.aload_n 0, 1) := by decide +kernel
theorem d_Law_law_177 : decode code 177 = .ok (.iload_n 3, 1) := by decide +kernel
theorem d_Law_law_178 : decode code 178 = .ok (.iconst 3, 1) := by decide +kernel
theorem d_Law_law_179 : decode code 179 = .ok (.iadd, 1) := by decide +kernel
theorem d_Law_law_180 : decode code 180 = .ok (.iaload, 1) := by decide +kernel
theorem d_Law_law_181 : decode code 181 = .ok (.aload_n 0, 1) := by decide +kernel
theorem d_Law_law_182 : decode code 182 = .ok (.iload_n 3, 1) := by decide +kernel
theorem d_Law_law_183 : decode code 183 = .ok (.iconst 4, 1) := by decide +kernel
theorem d_Law_law_184 : decode code 184 = .ok (.iadd, 1) := by decide +kernel
theorem d_Law_law_185 : decode code 185 = .ok (.iaload, 1) := by decide +kernel
theorem d_Law_law_186 : decode code 186 = .ok (.aload_n 0, 1) := by decide +kernel
theorem d_Law_law_187 : decode code 187 = .ok (.iload_n 3, 1) := by decide +kernel
theorem d_Law_law_188 : decode code 188 = .ok (.iconst 5, 1) := by decide +kernel
theorem d_Law_law_189 : decode code 189 = .ok (.iadd, 1) := by decide +kernel
theorem d_Law_law_190 : decode code 190 = .ok (.iaload, 1) := by decide +kernel
theorem d_Law_law_191 : decode code 191 = .ok (.invokevirtual 19, 3) := by decide +kernel
theorem d_Law_law_194 : decode code 194 = .ok (.if_icmp .eq 462, 3) := by decide +kernel
theorem d_Law_law_197 : decode code 197 = .ok (.iconst 0, 1) := by decide +kernel
theorem d_Law_law_198 : decode code 198 = .ok (.ireturn, 1) := by decide +kernel
theorem d_Law_law_199 : decode code 199 = .ok (.aload_n 1, 1) := by decide +kernel
theorem d_Law_law_200 : decode code 200 = .ok (.aload_n 0, 1) := by decide +kernel
theorem d_Law_law_201 : decode code 201 = .ok (.iload_n 3, 1) := by decide +kernel
theorem d_Law_law_202 : decode code 202 = .ok (.iconst 1, 1) := by decide +kernel
theorem d_Law_law_203 : decode code 203 = .ok (.iadd, 1) := by decide +kernel
theorem d_Law_law_204 : decode code 204 = .ok (.iaload, 1) := by decide +kernel
theorem d_Law_law_205 : decode code 205 = .ok (.aload_n 0, 1) := by decide +kernel
theorem d_Law_law_206 : decode code 206 = .ok (.iload_n 3, 1) := by decide +kernel
theorem d_Law_law_207 : decode code 207 = .ok (.iconst 2, 1) := by decide +kernel
theorem d_Law_law_208 : decode code 208 = .ok (.iadd, 1) := by decide +kernel
theorem d_Law_law_209 : decode code 209 = .ok (.iaload, 1) := by decide +kernel
theorem d_Law_law_210 : decode code 210 = .ok (.aload_n 0, 1) := by decide +kernel
theorem d_Law_law_211 : decode code 211 = .ok (.iload_n 3, 1) := by decide +kernel
theorem d_Law_law_212 : decode code 212 = .ok (.iconst 3, 1) := by decide +kernel
theorem d_Law_law_213 : decode code 213 = .ok (.iadd, 1) := by decide +kernel
theorem d_Law_law_214 : decode code 214 = .ok (.iaload, 1) := by decide +kernel
theorem d_Law_law_215 : decode code 215 = .ok (.invokevirtual 20, 3) := by decide +kernel
theorem d_Law_law_218 : decode code 218 = .ok (.aload_n 2, 1) := by decide +kernel
theorem d_Law_law_219 : decode code 219 = .ok (.aload_n 0, 1) := by decide +kernel
theorem d_Law_law_220 : decode code 220 = .ok (.iload_n 3, 1) := by decide +kernel
theorem d_Law_law_221 : decode code 221 = .ok (.iconst 1, 1) := by decide +kernel
theorem d_Law_law_222 : decode code 222 = .ok (.iadd, 1) := by decide +kernel
theorem d_Law_law_223 : decode code 223 = .ok (.iaload, 1) := by decide +kernel
theorem d_Law_law_224 : decode code 224 = .ok (.aload_n 0, 1) := by decide +kernel
theorem d_Law_law_225 : decode code 225 = .ok (.iload_n 3, 1) := by decide +kernel
theorem d_Law_law_226 : decode code 226 = .ok (.iconst 2, 1) := by decide +kernel
theorem d_Law_law_227 : decode code 227 = .ok (.iadd, 1) := by decide +kernel
theorem d_Law_law_228 : decode code 228 = .ok (.iaload, 1) := by decide +kernel
theorem d_Law_law_229 : decode code 229 = .ok (.aload_n 0, 1) := by decide +kernel
theorem d_Law_law_230 : decode code 230 = .ok (.iload_n 3, 1) := by decide +kernel
theorem d_Law_law_231 : decode code 231 = .ok (.iconst 3, 1) := by decide +kernel
theorem d_Law_law_232 : decode code 232 = .ok (.iadd, 1) := by decide +kernel
theorem d_Law_law_233 : decode code 233 = .ok (.iaload, 1) := by decide +kernel
theorem d_Law_law_234 : decode code 234 = .ok (.invokevirtual 24, 3) := by decide +kernel
theorem d_Law_law_237 : decode code 237 = .ok (.if_icmp .eq 419, 3) := by decide +kernel
theorem d_Law_law_240 : decode code 240 = .ok (.iconst 0, 1) := by decide +kernel
theorem d_Law_law_241 : decode code 241 = .ok (.ireturn, 1) := by decide +kernel
theorem d_Law_law_242 : decode code 242 = .ok (.aload_n 1, 1) := by decide +kernel
theorem d_Law_law_243 : decode code 243 = .ok (.aload_n 0, 1) := by decide +kernel
theorem d_Law_law_244 : decode code 244 = .ok (.iload_n 3, 1) := by decide +kernel
theorem d_Law_law_245 : decode code 245 = .ok (.iconst 1, 1) := by decide +kernel
theorem d_Law_law_246 : decode code 246 = .ok (.iadd, 1) := by decide +kernel
theorem d_Law_law_247 : decode code 247 = .ok (.iaload, 1) := by decide +kernel
theorem d_Law_law_248 : decode code 248 = .ok (.aload_n 0, 1) := by decide +kernel
theorem d_Law_law_249 : decode code 249 = .ok (.iload_n 3, 1) := by decide +kernel
theorem d_Law_law_250 : decode code 250 = .ok (.iconst 2, 1) := by decide +kernel
theorem d_Law_law_251 : decode code 251 = .ok (.iadd, 1) := by decide +kernel
theorem d_Law_law_252 : decode code 252 = .ok (.iaload, 1) := by decide +kernel
theorem d_Law_law_253 : decode code 253 = .ok (.aload_n 0, 1) := by decide +kernel
theorem d_Law_law_254 : decode code 254 = .ok (.iload_n 3, 1) := by decide +kernel
theorem d_Law_law_255 : decode code 255 = .ok (.iconst 3, 1) := by decide +kernel
theorem d_Law_law_256 : decode code 256 = .ok (.iadd, 1) := by decide +kernel
theorem d_Law_law_257 : decode code 257 = .ok (.iaload, 1) := by decide +kernel
theorem d_Law_law_258 : decode code 258 = .ok (.i2l, 1) := by decide +kernel
theorem d_Law_law_259 : decode code 259 = .ok (.bipush 32, 2) := by decide +kernel
theorem d_Law_law_261 : decode code 261 = .ok (.lshl, 1) := by decide +kernel
theorem d_Law_law_262 : decode code 262 = .ok (.aload_n 0, 1) := by decide +kernel
theorem d_Law_law_263 : decode code 263 = .ok (.iload_n 3, 1) := by decide +kernel
theorem d_Law_law_264 : decode code 264 = .ok (.iconst 4, 1) := by decide +kernel
theorem d_Law_law_265 : decode code 265 = .ok (.iadd, 1) := by decide +kernel
theorem d_Law_law_266 : decode code 266 = .ok (.iaload, 1) := by decide +kernel
theorem d_Law_law_267 : decode code 267 = .ok (.i2l, 1) := by decide +kernel
theorem d_Law_law_268 : decode code 268 = .ok (.ldc2_w 13, 3) := by decide +kernel
theorem d_Law_law_271 : decode code 271 = .ok (.land, 1) := by decide +kernel
theorem d_Law_law_272 : decode code 272 = .ok (.lor, 1) := by decide +kernel
theorem d_Law_law_273 : decode code 273 = .ok (.invokevirtual 25, 3) := by decide +kernel
theorem d_Law_law_276 : decode code 276 = .ok (.aload_n 2, 1) := by decide +kernel
theorem d_Law_law_277 : decode code 277 = .ok (.aload_n 0, 1) := by decide +kernel
theorem d_Law_law_278 : decode code 278 = .ok (.iload_n 3, 1) := by decide +kernel
theorem d_Law_law_279 : decode code 279 = .ok (.iconst 1, 1) := by decide +kernel
theorem d_Law_law_280 : decode code 280 = .ok (.iadd, 1) := by decide +kernel
theorem d_Law_law_281 : decode code 281 = .ok (.iaload, 1) := by decide +kernel
theorem d_Law_law_282 : decode code 282 = .ok (.aload_n 0, 1) := by decide +kernel
theorem d_Law_law_283 : decode code 283 = .ok (.iload_n 3, 1) := by decide +kernel
theorem d_Law_law_284 : decode code 284 = .ok (.iconst 2, 1) := by decide +kernel
theorem d_Law_law_285 : decode code 285 = .ok (.iadd, 1) := by decide +kernel
theorem d_Law_law_286 : decode code 286 = .ok (.iaload, 1) := by decide +kernel
theorem d_Law_law_287 : decode code 287 = .ok (.aload_n 0, 1) := by decide +kernel
theorem d_Law_law_288 : decode code 288 = .ok (.iload_n 3, 1) := by decide +kernel
theorem d_Law_law_289 : decode code 289 = .ok (.iconst 3, 1) := by decide +kernel
theorem d_Law_law_290 : decode code 290 = .ok (.iadd, 1) := by decide +kernel
theorem d_Law_law_291 : decode code 291 = .ok (.iaload, 1) := by decide +kernel
theorem d_Law_law_292 : decode code 292 = .ok (.i2l, 1) := by decide +kernel
theorem d_Law_law_293 : decode code 293 = .ok (.bipush 32, 2) := by decide +kernel
theorem d_Law_law_295 : decode code 295 = .ok (.lshl, 1) := by decide +kernel
theorem d_Law_law_296 : decode code 296 = .ok (.aload_n 0, 1) := by decide +kernel
theorem d_Law_law_297 : decode code 297 = .ok (.iload_n 3, 1) := by decide +kernel
theorem d_Law_law_298 : decode code 298 = .ok (.iconst 4, 1) := by decide +kernel
theorem d_Law_law_299 : decode code 299 = .ok (.iadd, 1) := by decide +kernel
theorem d_Law_law_300 : decode code 300 = .ok (.iaload, 1) := by decide +kernel
theorem d_Law_law_301 : decode code 301 = .ok (.i2l, 1) := by decide +kernel
theorem d_Law_law_302 : decode code 302 = .ok (.ldc2_w 13, 3) := by decide +kernel
theorem d_Law_law_305 : decode code 305 = .ok (.land, 1) := by decide +kernel
theorem d_Law_law_306 : decode code 306 = .ok (.lor, 1) := by decide +kernel
theorem d_Law_law_307 : decode code 307 = .ok (.invokevirtual 29, 3) := by decide +kernel
theorem d_Law_law_310 : decode code 310 = .ok (.if_icmp .eq 346, 3) := by decide +kernel
theorem d_Law_law_313 : decode code 313 = .ok (.iconst 0, 1) := by decide +kernel
theorem d_Law_law_314 : decode code 314 = .ok (.ireturn, 1) := by decide +kernel
theorem d_Law_law_315 : decode code 315 = .ok (.aload_n 1, 1) := by decide +kernel
theorem d_Law_law_316 : decode code 316 = .ok (.invokevirtual 30, 3) := by decide +kernel
theorem d_Law_law_319 : decode code 319 = .ok (.aload_n 2, 1) := by decide +kernel
theorem d_Law_law_320 : decode code 320 = .ok (.invokevirtual 33, 3) := by decide +kernel
theorem d_Law_law_323 : decode code 323 = .ok (.goto 333, 3) := by decide +kernel
theorem d_Law_law_326 : decode code 326 = .ok (.aload_n 1, 1) := by decide +kernel
theorem d_Law_law_327 : decode code 327 = .ok (.aload_n 0, 1) := by decide +kernel
theorem d_Law_law_328 : decode code 328 = .ok (.iload_n 3, 1) := by decide +kernel
theorem d_Law_law_329 : decode code 329 = .ok (.iconst 1, 1) := by decide +kernel
theorem d_Law_law_330 : decode code 330 = .ok (.iadd, 1) := by decide +kernel
theorem d_Law_law_331 : decode code 331 = .ok (.iaload, 1) := by decide +kernel
theorem d_Law_law_332 : decode code 332 = .ok (.invokevirtual 34, 3) := by decide +kernel
theorem d_Law_law_335 : decode code 335 = .ok (.aload_n 2, 1) := by decide +kernel
theorem d_Law_law_336 : decode code 336 = .ok (.aload_n 0, 1) := by decide +kernel
theorem d_Law_law_337 : decode code 337 = .ok (.iload_n 3, 1) := by decide +kernel
theorem d_Law_law_338 : decode code 338 = .ok (.iconst 1, 1) := by decide +kernel
theorem d_Law_law_339 : decode code 339 = .ok (.iadd, 1) := by decide +kernel
theorem d_Law_law_340 : decode code 340 = .ok (.iaload, 1) := by decide +kernel
theorem d_Law_law_341 : decode code 341 = .ok (.invokevirtual 38, 3) := by decide +kernel
theorem d_Law_law_344 : decode code 344 = .ok (.if_icmp .eq 312, 3) := by decide +kernel
theorem d_Law_law_347 : decode code 347 = .ok (.iconst 0, 1) := by decide +kernel
theorem d_Law_law_348 : decode code 348 = .ok (.ireturn, 1) := by decide +kernel
theorem d_Law_law_349 : decode code 349 = .ok (.aload_n 1, 1) := by decide +kernel
theorem d_Law_law_350 : decode code 350 = .ok (.invokevirtual 39, 3) := by decide +kernel
theorem d_Law_law_353 : decode code 353 = .ok (.aload_n 2, 1) := by decide +kernel
theorem d_Law_law_354 : decode code 354 = .ok (.invokevirtual 43, 3) := by decide +kernel
theorem d_Law_law_357 : decode code 357 = .ok (.if_icmp .eq 299, 3) := by decide +kernel
theorem d_Law_law_360 : decode code 360 = .ok (.iconst 0, 1) := by decide +kernel
theorem d_Law_law_361 : decode code 361 = .ok (.ireturn, 1) := by decide +kernel
theorem d_Law_law_362 : decode code 362 = .ok (.aload_n 1, 1) := by decide +kernel
theorem d_Law_law_363 : decode code 363 = .ok (.aload_n 0, 1) := by decide +kernel
theorem d_Law_law_364 : decode code 364 = .ok (.iload_n 3, 1) := by decide +kernel
theorem d_Law_law_365 : decode code 365 = .ok (.iconst 1, 1) := by decide +kernel
theorem d_Law_law_366 : decode code 366 = .ok (.iadd, 1) := by decide +kernel
theorem d_Law_law_367 : decode code 367 = .ok (.iaload, 1) := by decide +kernel
theorem d_Law_law_368 : decode code 368 = .ok (.invokevirtual 44, 3) := by decide +kernel
theorem d_Law_law_371 : decode code 371 = .ok (.aload_n 2, 1) := by decide +kernel
theorem d_Law_law_372 : decode code 372 = .ok (.aload_n 0, 1) := by decide +kernel
theorem d_Law_law_373 : decode code 373 = .ok (.iload_n 3, 1) := by decide +kernel
theorem d_Law_law_374 : decode code 374 = .ok (.iconst 1, 1) := by decide +kernel
theorem d_Law_law_375 : decode code 375 = .ok (.iadd, 1) := by decide +kernel
theorem d_Law_law_376 : decode code 376 = .ok (.iaload, 1) := by decide +kernel
theorem d_Law_law_377 : decode code 377 = .ok (.invokevirtual 47, 3) := by decide +kernel
theorem d_Law_law_380 : decode code 380 = .ok (.if_icmp .eq 276, 3) := by decide +kernel
theorem d_Law_law_383 : decode code 383 = .ok (.iconst 0, 1) := by decide +kernel
theorem d_Law_law_384 : decode code 384 = .ok (.ireturn, 1) := by decide +kernel
theorem d_Law_law_385 : decode code 385 = .ok (.aload_n 1, 1) := by decide +kernel
theorem d_Law_law_386 : decode code 386 = .ok (.aload_n 0, 1) := by decide +kernel
theorem d_Law_law_387 : decode code 387 = .ok (.iload_n 3, 1) := by decide +kernel
theorem d_Law_law_388 : decode code 388 = .ok (.iconst 1, 1) := by decide +kernel
theorem d_Law_law_389 : decode code 389 = .ok (.iadd, 1) := by decide +kernel
theorem d_Law_law_390 : decode code 390 = .ok (.iaload, 1) := by decide +kernel
theorem d_Law_law_391 : decode code 391 = .ok (.aload_n 0, 1) := by decide +kernel
theorem d_Law_law_392 : decode code 392 = .ok (.iload_n 3, 1) := by decide +kernel
theorem d_Law_law_393 : decode code 393 = .ok (.iconst 2, 1) := by decide +kernel
theorem d_Law_law_394 : decode code 394 = .ok (.iadd, 1) := by decide +kernel
theorem d_Law_law_395 : decode code 395 = .ok (.iaload, 1) := by decide +kernel
theorem d_Law_law_396 : decode code 396 = .ok (.invokevirtual 48, 3) := by decide +kernel
theorem d_Law_law_399 : decode code 399 = .ok (.aload_n 2, 1) := by decide +kernel
theorem d_Law_law_400 : decode code 400 = .ok (.aload_n 0, 1) := by decide +kernel
theorem d_Law_law_401 : decode code 401 = .ok (.iload_n 3, 1) := by decide +kernel
theorem d_Law_law_402 : decode code 402 = .ok (.iconst 1, 1) := by decide +kernel
theorem d_Law_law_403 : decode code 403 = .ok (.iadd, 1) := by decide +kernel
theorem d_Law_law_404 : decode code 404 = .ok (.iaload, 1) := by decide +kernel
theorem d_Law_law_405 : decode code 405 = .ok (.aload_n 0, 1) := by decide +kernel
theorem d_Law_law_406 : decode code 406 = .ok (.iload_n 3, 1) := by decide +kernel
theorem d_Law_law_407 : decode code 407 = .ok (.iconst 2, 1) := by decide +kernel
theorem d_Law_law_408 : decode code 408 = .ok (.iadd, 1) := by decide +kernel
theorem d_Law_law_409 : decode code 409 = .ok (.iaload, 1) := by decide +kernel
theorem d_Law_law_410 : decode code 410 = .ok (.invokevirtual 52, 3) := by decide +kernel
theorem d_Law_law_413 : decode code 413 = .ok (.if_icmp .eq 243, 3) := by decide +kernel
theorem d_Law_law_416 : decode code 416 = .ok (.iconst 0, 1) := by decide +kernel
theorem d_Law_law_417 : decode code 417 = .ok (.ireturn, 1) := by decide +kernel
theorem d_Law_law_418 : decode code 418 = .ok (.aload_n 1, 1) := by decide +kernel
theorem d_Law_law_419 : decode code 419 = .ok (.aload_n 0, 1) := by decide +kernel
theorem d_Law_law_420 : decode code 420 = .ok (.iload_n 3, 1) := by decide +kernel
theorem d_Law_law_421 : decode code 421 = .ok (.iconst 1, 1) := by decide +kernel
theorem d_Law_law_422 : decode code 422 = .ok (.iadd, 1) := by decide +kernel
theorem d_Law_law_423 : decode code 423 = .ok (.iaload, 1) := by decide +kernel
theorem d_Law_law_424 : decode code 424 = .ok (.invokevirtual 53, 3) := by decide +kernel
theorem d_Law_law_427 : decode code 427 = .ok (.aload_n 2, 1) := by decide +kernel
theorem d_Law_law_428 : decode code 428 = .ok (.aload_n 0, 1) := by decide +kernel
theorem d_Law_law_429 : decode code 429 = .ok (.iload_n 3, 1) := by decide +kernel
theorem d_Law_law_430 : decode code 430 = .ok (.iconst 1, 1) := by decide +kernel
theorem d_Law_law_431 : decode code 431 = .ok (.iadd, 1) := by decide +kernel
theorem d_Law_law_432 : decode code 432 = .ok (.iaload, 1) := by decide +kernel
theorem d_Law_law_433 : decode code 433 = .ok (.invokevirtual 57, 3) := by decide +kernel
theorem d_Law_law_436 : decode code 436 = .ok (.if_icmp .eq 220, 3) := by decide +kernel
theorem d_Law_law_439 : decode code 439 = .ok (.iconst 0, 1) := by decide +kernel
theorem d_Law_law_440 : decode code 440 = .ok (.ireturn, 1) := by decide +kernel
theorem d_Law_law_441 : decode code 441 = .ok (.aload_n 1, 1) := by decide +kernel
theorem d_Law_law_442 : decode code 442 = .ok (.invokevirtual 58, 3) := by decide +kernel
theorem d_Law_law_445 : decode code 445 = .ok (.aload_n 2, 1) := by decide +kernel
theorem d_Law_law_446 : decode code 446 = .ok (.invokevirtual 61, 3) := by decide +kernel
theorem d_Law_law_449 : decode code 449 = .ok (.if_icmp .eq 207, 3) := by decide +kernel
theorem d_Law_law_452 : decode code 452 = .ok (.iconst 0, 1) := by decide +kernel
theorem d_Law_law_453 : decode code 453 = .ok (.ireturn, 1) := by decide +kernel
theorem d_Law_law_454 : decode code 454 = .ok (.aload_n 1, 1) := by decide +kernel
theorem d_Law_law_455 : decode code 455 = .ok (.aload_n 0, 1) := by decide +kernel
theorem d_Law_law_456 : decode code 456 = .ok (.iload_n 3, 1) := by decide +kernel
theorem d_Law_law_457 : decode code 457 = .ok (.iconst 1, 1) := by decide +kernel
theorem d_Law_law_458 : decode code 458 = .ok (.iadd, 1) := by decide +kernel
theorem d_Law_law_459 : decode code 459 = .ok (.iaload, 1) := by decide +kernel
theorem d_Law_law_460 : decode code 460 = .ok (.aload_n 0, 1) := by decide +kernel
theorem d_Law_law_461 : decode code 461 = .ok (.iload_n 3, 1) := by decide +kernel
theorem d_Law_law_462 : decode code 462 = .ok (.iconst 2, 1) := by decide +kernel
theorem d_Law_law_463 : decode code 463 = .ok (.iadd, 1) := by decide +kernel
theorem d_Law_law_464 : decode code 464 = .ok (.iaload, 1) := by decide +kernel
theorem d_Law_law_465 : decode code 465 = .ok (.invokevirtual 62, 3) := by decide +kernel
theorem d_Law_law_468 : decode code 468 = .ok (.aload_n 2, 1) := by decide +kernel
theorem d_Law_law_469 : decode code 469 = .ok (.aload_n 0, 1) := by decide +kernel
theorem d_Law_law_470 : decode code 470 = .ok (.iload_n 3, 1) := by decide +kernel
theorem d_Law_law_471 : decode code 471 = .ok (.iconst 1, 1) := by decide +kernel
theorem d_Law_law_472 : decode code 472 = .ok (.iadd, 1) := by decide +kernel
theorem d_Law_law_473 : decode code 473 = .ok (.iaload, 1) := by decide +kernel
theorem d_Law_law_474 : decode code 474 = .ok (.aload_n 0, 1) := by decide +kernel
theorem d_Law_law_475 : decode code 475 = .ok (.iload_n 3, 1) := by decide +kernel
theorem d_Law_law_476 : decode code 476 = .ok (.iconst 2, 1) := by decide +kernel
theorem d_Law_law_477 : decode code 477 = .ok (.iadd, 1) := by decide +kernel
theorem d_Law_law_478 : decode code 478 = .ok (.iaload, 1) := by decide +kernel
theorem d_Law_law_479 : decode code 479 = .ok (.invokevirtual 66, 3) := by decide +kernel
theorem d_Law_law_482 : decode code 482 = .ok (.if_icmp .eq 174, 3) := by decide +kernel
theorem d_Law_law_485 : decode code 485 = .ok (.iconst 0, 1) := by decide +kernel
theorem d_Law_law_486 : decode code 486 = .ok (.ireturn, 1) := by decide +kernel
theorem d_Law_law_487 : decode code 487 = .ok (.aload_n 1, 1) := by decide +kernel
theorem d_Law_law_488 : decode code 488 = .ok (.aload_n 0, 1) := by decide +kernel
theorem d_Law_law_489 : decode code 489 = .ok (.iload_n 3, 1) := by decide +kernel
theorem d_Law_law_490 : decode code 490 = .ok (.iconst 1, 1) := by decide +kernel
theorem d_Law_law_491 : decode code 491 = .ok (.iadd, 1) := by decide +kernel
theorem d_Law_law_492 : decode code 492 = .ok (.iaload, 1) := by decide +kernel
theorem d_Law_law_493 : decode code 493 = .ok (.aload_n 0, 1) := by decide +kernel
theorem d_Law_law_494 : decode code 494 = .ok (.iload_n 3, 1) := by decide +kernel
theorem d_Law_law_495 : decode code 495 = .ok (.iconst 2, 1) := by decide +kernel
theorem d_Law_law_496 : decode code 496 = .ok (.iadd, 1) := by decide +kernel
theorem d_Law_law_497 : decode code 497 = .ok (.iaload, 1) := by decide +kernel
theorem d_Law_law_498 : decode code 498 = .ok (.invokevirtual 67, 3) := by decide +kernel
theorem d_Law_law_501 : decode code 501 = .ok (.aload_n 2, 1) := by decide +kernel
theorem d_Law_law_502 : decode code 502 = .ok (.aload_n 0, 1) := by decide +kernel
theorem d_Law_law_503 : decode code 503 = .ok (.iload_n 3, 1) := by decide +kernel
theorem d_Law_law_504 : decode code 504 = .ok (.iconst 1, 1) := by decide +kernel
theorem d_Law_law_505 : decode code 505 = .ok (.iadd, 1) := by decide +kernel
theorem d_Law_law_506 : decode code 506 = .ok (.iaload, 1) := by decide +kernel
theorem d_Law_law_507 : decode code 507 = .ok (.aload_n 0, 1) := by decide +kernel
theorem d_Law_law_508 : decode code 508 = .ok (.iload_n 3, 1) := by decide +kernel
theorem d_Law_law_509 : decode code 509 = .ok (.iconst 2, 1) := by decide +kernel
theorem d_Law_law_510 : decode code 510 = .ok (.iadd, 1) := by decide +kernel
theorem d_Law_law_511 : decode code 511 = .ok (.iaload, 1) := by decide +kernel
theorem d_Law_law_512 : decode code 512 = .ok (.invokevirtual 70, 3) := by decide +kernel
theorem d_Law_law_515 : decode code 515 = .ok (.if_icmp .eq 141, 3) := by decide +kernel
theorem d_Law_law_518 : decode code 518 = .ok (.iconst 0, 1) := by decide +kernel
theorem d_Law_law_519 : decode code 519 = .ok (.ireturn, 1) := by decide +kernel
theorem d_Law_law_520 : decode code 520 = .ok (.aload_n 1, 1) := by decide +kernel
theorem d_Law_law_521 : decode code 521 = .ok (.aload_n 0, 1) := by decide +kernel
theorem d_Law_law_522 : decode code 522 = .ok (.iload_n 3, 1) := by decide +kernel
theorem d_Law_law_523 : decode code 523 = .ok (.iconst 1, 1) := by decide +kernel
theorem d_Law_law_524 : decode code 524 = .ok (.iadd, 1) := by decide +kernel
theorem d_Law_law_525 : decode code 525 = .ok (.iaload, 1) := by decide +kernel
theorem d_Law_law_526 : decode code 526 = .ok (.aload_n 0, 1) := by decide +kernel
theorem d_Law_law_527 : decode code 527 = .ok (.iload_n 3, 1) := by decide +kernel
theorem d_Law_law_528 : decode code 528 = .ok (.iconst 2, 1) := by decide +kernel
theorem d_Law_law_529 : decode code 529 = .ok (.iadd, 1) := by decide +kernel
theorem d_Law_law_530 : decode code 530 = .ok (.iaload, 1) := by decide +kernel
theorem d_Law_law_531 : decode code 531 = .ok (.aload_n 0, 1) := by decide +kernel
theorem d_Law_law_532 : decode code 532 = .ok (.iload_n 3, 1) := by decide +kernel
theorem d_Law_law_533 : decode code 533 = .ok (.iconst 3, 1) := by decide +kernel
theorem d_Law_law_534 : decode code 534 = .ok (.iadd, 1) := by decide +kernel
theorem d_Law_law_535 : decode code 535 = .ok (.iaload, 1) := by decide +kernel
theorem d_Law_law_536 : decode code 536 = .ok (.invokevirtual 71, 3) := by decide +kernel
theorem d_Law_law_539 : decode code 539 = .ok (.aload_n 2, 1) := by decide +kernel
theorem d_Law_law_540 : decode code 540 = .ok (.aload_n 0, 1) := by decide +kernel
theorem d_Law_law_541 : decode code 541 = .ok (.iload_n 3, 1) := by decide +kernel
theorem d_Law_law_542 : decode code 542 = .ok (.iconst 1, 1) := by decide +kernel
theorem d_Law_law_543 : decode code 543 = .ok (.iadd, 1) := by decide +kernel
theorem d_Law_law_544 : decode code 544 = .ok (.iaload, 1) := by decide +kernel
theorem d_Law_law_545 : decode code 545 = .ok (.aload_n 0, 1) := by decide +kernel
theorem d_Law_law_546 : decode code 546 = .ok (.iload_n 3, 1) := by decide +kernel
theorem d_Law_law_547 : decode code 547 = .ok (.iconst 2, 1) := by decide +kernel
theorem d_Law_law_548 : decode code 548 = .ok (.iadd, 1) := by decide +kernel
theorem d_Law_law_549 : decode code 549 = .ok (.iaload, 1) := by decide +kernel
theorem d_Law_law_550 : decode code 550 = .ok (.aload_n 0, 1) := by decide +kernel
theorem d_Law_law_551 : decode code 551 = .ok (.iload_n 3, 1) := by decide +kernel
theorem d_Law_law_552 : decode code 552 = .ok (.iconst 3, 1) := by decide +kernel
theorem d_Law_law_553 : decode code 553 = .ok (.iadd, 1) := by decide +kernel
theorem d_Law_law_554 : decode code 554 = .ok (.iaload, 1) := by decide +kernel
theorem d_Law_law_555 : decode code 555 = .ok (.invokevirtual 74, 3) := by decide +kernel
theorem d_Law_law_558 : decode code 558 = .ok (.if_icmp .eq 98, 3) := by decide +kernel
theorem d_Law_law_561 : decode code 561 = .ok (.iconst 0, 1) := by decide +kernel
theorem d_Law_law_562 : decode code 562 = .ok (.ireturn, 1) := by decide +kernel
theorem d_Law_law_563 : decode code 563 = .ok (.aload_n 1, 1) := by decide +kernel
theorem d_Law_law_564 : decode code 564 = .ok (.aload_n 0, 1) := by decide +kernel
theorem d_Law_law_565 : decode code 565 = .ok (.iload_n 3, 1) := by decide +kernel
theorem d_Law_law_566 : decode code 566 = .ok (.iconst 1, 1) := by decide +kernel
theorem d_Law_law_567 : decode code 567 = .ok (.iadd, 1) := by decide +kernel
theorem d_Law_law_568 : decode code 568 = .ok (.iaload, 1) := by decide +kernel
theorem d_Law_law_569 : decode code 569 = .ok (.aload_n 0, 1) := by decide +kernel
theorem d_Law_law_570 : decode code 570 = .ok (.iload_n 3, 1) := by decide +kernel
theorem d_Law_law_571 : decode code 571 = .ok (.iconst 2, 1) := by decide +kernel
theorem d_Law_law_572 : decode code 572 = .ok (.iadd, 1) := by decide +kernel
theorem d_Law_law_573 : decode code 573 = .ok (.iaload, 1) := by decide +kernel
theorem d_Law_law_574 : decode code 574 = .ok (.aload_n 0, 1) := by decide +kernel
theorem d_Law_law_575 : decode code 575 = .ok (.iload_n 3, 1) := by decide +kernel
theorem d_Law_law_576 : decode code 576 = .ok (.iconst 3, 1) := by decide +kernel
theorem d_Law_law_577 : decode code 577 = .ok (.iadd, 1) := by decide +kernel
theorem d_Law_law_578 : decode code 578 = .ok (.iaload, 1) := by decide +kernel
theorem d_Law_law_579 : decode code 579 = .ok (.invokevirtual 75, 3) := by decide +kernel
theorem d_Law_law_582 : decode code 582 = .ok (.aload_n 2, 1) := by decide +kernel
theorem d_Law_law_583 : decode code 583 = .ok (.aload_n 0, 1) := by decide +kernel
theorem d_Law_law_584 : decode code 584 = .ok (.iload_n 3, 1) := by decide +kernel
theorem d_Law_law_585 : decode code 585 = .ok (.iconst 1, 1) := by decide +kernel
theorem d_Law_law_586 : decode code 586 = .ok (.iadd, 1) := by decide +kernel
theorem d_Law_law_587 : decode code 587 = .ok (.iaload, 1) := by decide +kernel
theorem d_Law_law_588 : decode code 588 = .ok (.aload_n 0, 1) := by decide +kernel
theorem d_Law_law_589 : decode code 589 = .ok (.iload_n 3, 1) := by decide +kernel
theorem d_Law_law_590 : decode code 590 = .ok (.iconst 2, 1) := by decide +kernel
theorem d_Law_law_591 : decode code 591 = .ok (.iadd, 1) := by decide +kernel
theorem d_Law_law_592 : decode code 592 = .ok (.iaload, 1) := by decide +kernel
theorem d_Law_law_593 : decode code 593 = .ok (.aload_n 0, 1) := by decide +kernel
theorem d_Law_law_594 : decode code 594 = .ok (.iload_n 3, 1) := by decide +kernel
theorem d_Law_law_595 : decode code 595 = .ok (.iconst 3, 1) := by decide +kernel
theorem d_Law_law_596 : decode code 596 = .ok (.iadd, 1) := by decide +kernel
theorem d_Law_law_597 : decode code 597 = .ok (.iaload, 1) := by decide +kernel
theorem d_Law_law_598 : decode code 598 = .ok (.invokevirtual 78, 3) := by decide +kernel
theorem d_Law_law_601 : decode code 601 = .ok (.if_icmp .eq 55, 3) := by decide +kernel
theorem d_Law_law_604 : decode code 604 = .ok (.iconst 0, 1) := by decide +kernel
theorem d_Law_law_605 : decode code 605 = .ok (.ireturn, 1) := by decide +kernel
theorem d_Law_law_606 : decode code 606 = .ok (.aload_n 1, 1) := by decide +kernel
theorem d_Law_law_607 : decode code 607 = .ok (.invokevirtual 79, 3) := by decide +kernel
theorem d_Law_law_610 : decode code 610 = .ok (.aload_n 2, 1) := by decide +kernel
theorem d_Law_law_611 : decode code 611 = .ok (.invokevirtual 82, 3) := by decide +kernel
theorem d_Law_law_614 : decode code 614 = .ok (.if_icmp .eq 42, 3) := by decide +kernel
theorem d_Law_law_617 : decode code 617 = .ok (.iconst 0, 1) := by decide +kernel
theorem d_Law_law_618 : decode code 618 = .ok (.ireturn, 1) := by decide +kernel
theorem d_Law_law_619 : decode code 619 = .ok (.aload_n 1, 1) := by decide +kernel
theorem d_Law_law_620 : decode code 620 = .ok (.aload_n 0, 1) := by decide +kernel
theorem d_Law_law_621 : decode code 621 = .ok (.iload_n 3, 1) := by decide +kernel
theorem d_Law_law_622 : decode code 622 = .ok (.iconst 1, 1) := by decide +kernel
theorem d_Law_law_623 : decode code 623 = .ok (.iadd, 1) := by decide +kernel
theorem d_Law_law_624 : decode code 624 = .ok (.iaload, 1) := by decide +kernel
theorem d_Law_law_625 : decode code 625 = .ok (.invokevirtual 83, 3) := by decide +kernel
theorem d_Law_law_628 : decode code 628 = .ok (.aload_n 2, 1) := by decide +kernel
theorem d_Law_law_629 : decode code 629 = .ok (.aload_n 0, 1) := by decide +kernel
theorem d_Law_law_630 : decode code 630 = .ok (.iload_n 3, 1) := by decide +kernel
theorem d_Law_law_631 : decode code 631 = .ok (.iconst 1, 1) := by decide +kernel
theorem d_Law_law_632 : decode code 632 = .ok (.iadd, 1) := by decide +kernel
theorem d_Law_law_633 : decode code 633 = .ok (.iaload, 1) := by decide +kernel
theorem d_Law_law_634 : decode code 634 = .ok (.invokevirtual 87, 3) := by decide +kernel
theorem d_Law_law_637 : decode code 637 = .ok (.lcmp, 1) := by decide +kernel
theorem d_Law_law_638 : decode code 638 = .ok (.ifCond .eq 18, 3) := by decide +kernel
theorem d_Law_law_641 : decode code 641 = .ok (.iconst 0, 1) := by decide +kernel
theorem d_Law_law_642 : decode code 642 = .ok (.ireturn, 1) := by decide +kernel
theorem d_Law_law_643 : decode code 643 = .ok (.aload_n 1, 1) := by decide +kernel
theorem d_Law_law_644 : decode code 644 = .ok (.invokevirtual 88, 3) := by decide +kernel
theorem d_Law_law_647 : decode code 647 = .ok (.aload_n 2, 1) := by decide +kernel
theorem d_Law_law_648 : decode code 648 = .ok (.invokevirtual 91, 3) := by decide +kernel
theorem d_Law_law_651 : decode code 651 = .ok (.if_icmp .eq 5, 3) := by decide +kernel
theorem d_Law_law_654 : decode code 654 = .ok (.iconst 0, 1) := by decide +kernel
theorem d_Law_law_655 : decode code 655 = .ok (.ireturn, 1) := by decide +kernel
theorem d_Law_law_656 : decode code 656 = .ok (.iinc 3 6, 3) := by decide +kernel
theorem d_Law_law_659 : decode code 659 = .ok (.goto (-641), 3) := by decide +kernel
theorem d_Law_law_662 : decode code 662 = .ok (.iconst 1, 1) := by decide +kernel
theorem d_Law_law_663 : decode code 663 = .ok (.ireturn, 1) := by decide +kernel
end
section
theorem d_Ar_fill_0 : decode b_Ar_fill 0 = .ok (.iconst 0, 1) := by decide +kernel
theorem d_Ar_fill_1 : decode b_Ar_fill 1 = .ok (.istore_n 2, 1) := by decide +kernel
theorem d_Ar_fill_2 : decode b_Ar_fill 2 = .ok (.aload_n 0, 1) := by decide +kernel
theorem d_Ar_fill_3 : decode b_Ar_fill 3 = .ok (.arraylength, 1) := by decide +kernel
theorem d_Ar_fill_4 : decode b_Ar_fill 4 = .ok (.istore_n 3, 1) := by decide +kernel
theorem d_Ar_fill_5 : decode b_Ar_fill 5 = .ok (.iload_n 2, 1) := by decide +kernel
theorem d_Ar_fill_6 : decode b_Ar_fill 6 = .ok (.iload_n 3, 1) := by decide +kernel
theorem d_Ar_fill_7 : decode b_Ar_fill 7 = .ok (.if_icmp .ge 13, 3) := by decide +kernel
theorem d_Ar_fill_10 : decode b_Ar_fill 10 = .ok (.aload_n 0, 1) := by decide +kernel
theorem d_Ar_fill_11 : decode b_Ar_fill 11 = .ok (.iload_n 2, 1) := by decide +kernel
theorem d_Ar_fill_12 : decode b_Ar_fill 12 = .ok (.iload_n 1, 1) := by decide +kernel
theorem d_Ar_fill_13 : decode b_Ar_fill 13 = .ok (.iastore, 1) := by decide +kernel
theorem d_Ar_fill_14 : decode b_Ar_fill 14 = .ok (.iinc 2 1, 3) := by decide +kernel
theorem d_Ar_fill_17 : decode b_Ar_fill 17 = .ok (.goto (-12), 3) := by decide +kernel
theorem d_Ar_fill_20 : decode b_Ar_fill 20 = .ok (.return_, 1) := by decide +kernel
end
section
/-! the layer: one table of words, one form of contract (Ct), one judgement for a point of a walk (SW) -/
/-- a private method of the superclass, selected for both coders -/
def exW : List Cond := [.selects "LayeredPage$CodeWriter" ⟨"LayeredPage$Coder", "tally", "(II)V"⟩ ⟨"LayeredPage$Coder", "tally", "(II)V"⟩, .selects "LayeredPage$CodeReader" ⟨"LayeredPage$Coder", "tally", "(II)V"⟩ ⟨"LayeredPage$Coder", "tally", "(II)V"⟩]
def TT : List Cond := exW ++ lw_tbl.filter goodWord
theorem TT_in {w : Cond} (h : w ∈ lw_tbl) (g : goodWord w = true) : w ∈ TT := List.mem_append_right _ (List.mem_filter.mpr ⟨h, g⟩)
theorem TT_gw {w : Cond} (h : w ∈ TT) : goodWord w = true := by
  rcases List.mem_append.mp h with h | h
  · simp only [exW, List.mem_cons, List.not_mem_nil, or_false] at h
    rcases h with rfl | rfl <;> rfl
  · exact (List.mem_filter.mp h).2
abbrev wS (y : MethodName) (b : ByteArray) (n : Nat) (r : Option FieldType) : List Cond := Cond.code y b n r :: TT
theorem wS_good {y z : MethodName} {b b' : ByteArray} {n n' : Nat} {r r' : Option FieldType} (h : Cond.code z b' n' r' ∈ TT) : GoodIn (wS y b n r) (wS z b' n' r') := by
  intro w hw
  rcases List.mem_cons.mp hw with rfl | hw
  · exact ⟨List.mem_cons_of_mem _ h, good_of_word (TT_gw h)⟩
  · exact ⟨List.mem_cons_of_mem _ hw, good_of_word (TT_gw hw)⟩
/-- words that don't keep by themselves: private members of nest mates, abstract methods, arrays of objects -/
def nst : Cond → Bool
  | .fieldLinkNest .. => true
  | .methodLinkNest .. => true
  | .declares .. => true
  | .arrayOver (.object _) => true
  | _ => false
def NW (U : State) : Prop := ∀ w ∈ lw_tbl, nst w = true → va_Nw w U
theorem NW.warm {s U : State} (hW : s.WarmedH U.vm) (h : NW s) : NW U := by
  intro w hw hn
  have h1 := h w hw hn
  cases w <;> first | exact va_Nw.warmF hW h1 | exact va_Nw.warmM hW h1 | exact va_Nw.warmD hW h1 | exact (Bool.false_ne_true hn).elim | skip
  rename_i ty
  cases ty <;> first | exact va_AO.moved hW.alike h1 | exact (Bool.false_ne_true hn).elim
theorem NW.same {u U : State} (e : u.vm = U.vm) (h : NW u) : NW U := by
  intro w hw hn
  have h1 := h w hw hn
  cases w <;> first | exact (Bool.false_ne_true hn).elim | exact va_Nw.same rfl e h1 | skip
  rename_i ty
  cases ty <;> first | exact (Bool.false_ne_true hn).elim | exact va_AO.moved (by rw [e]; exact Vm.Alike.refl _) h1
/-- classes by their numbers, slots; int[], long[], boolean[], Shape[] -/
abbrev Gl : Type := va_G × ClassId × ClassId × ClassId × ClassId
def tysG (g : Gl) : List (ClassId × FieldType) := [(g.2.1, .int), (g.2.2.1, .long), (g.2.2.2.1, .boolean), (g.2.2.2.2, .object nmShape)]
def KK (g : Gl) (U : State) : Prop := va_K g.1 vwCl (tysG g) U ∧ NW U
theorem KK.warm {g : Gl} {s U : State} (hW : s.WarmedH U.vm) (h : KK g s) : KK g U := ⟨va_K.moved hW.alike h.1, NW.warm hW h.2⟩
theorem KK.calling {g : Gl} {U : State} {f : JFrame} {mk : MethodId} {a : Array Value} (h : KK g U) : KK g (U.calling f mk a) := ⟨va_K.moved (u := U) (U := U.calling f mk a) (Vm.Alike.refl U.vm) h.1, NW.same (u := U) rfl h.2⟩
/-- a contract's end: the answer and the world behind it -/
def Qg (g : Gl) (post : Option Value → va_W → Prop) (A : Nat → Prop) : Array Value → State → Outcome → State → Prop := fun _ st oc t =>
  (∃ (v : Option Value) (w : va_W), oc = .returned v ∧ post v w ∧ va_P g.1 vwCl w t.heap ∧ va_D A w) ∧ va_F A st t
def Pg (g : Gl) (sz : Nat) (w : va_W) (U : State) : Prop := U.heap.size = sz ∧ va_P g.1 vwCl w U.heap ∧ KK g U ∧ va_D (fun _ => True) w
def Ct (l : Launch) (g : Gl) (y : MethodName) (b : ByteArray) (n : Nat) (r : Option FieldType) (rm : Room) (av : List Value) (w : va_W) (post : Option Value → va_W → Prop) : Prop :=
  ∀ sz : Nat, Met l y (wS y b n r) rm (va_Pc av (Pg g sz w)) (Qg g post (va_A w sz)) rm.cells rm.slots (va_A w sz)
/-- locals by their places -/
def lvl : Nat → List (Option Value) → List (Nat × Value)
  | _, [] => []
  | k, none :: r => lvl (k + 1) r
  | k, some v :: r => (k, v) :: lvl (k + 1) r
theorem lvl_mem : ∀ (L : List (Option Value)) (k i : Nat) (v : Value), L[i]? = some (some v) → (k + i, v) ∈ lvl k L
  | [], k, i, v, h => by simp at h
  | o :: r, k, 0, v, h => by
    simp at h
    subst h
    simp [lvl]
  | o :: r, k, i + 1, v, h => by
    have h1 := lvl_mem r (k + 1) i v (by simpa using h)
    rw [show k + (i + 1) = k + 1 + i by omega]
    cases o with
    | none => exact h1
    | some u => exact List.mem_cons_of_mem _ h1
theorem lvl_of : ∀ (L : List (Option Value)) (k : Nat) (q : Nat × Value), q ∈ lvl k L → ∃ i, q.1 = k + i ∧ L[i]? = some (some q.2)
  | [], k, q, h => by simp [lvl] at h
  | none :: r, k, q, h => by
    obtain ⟨i, h1, h2⟩ := lvl_of r (k + 1) q h
    exact ⟨i + 1, by omega, by simpa using h2⟩
  | some u :: r, k, q, h => by
    rcases List.mem_cons.mp h with rfl | h
    · exact ⟨0, rfl, rfl⟩
    · obtain ⟨i, h1, h2⟩ := lvl_of r (k + 1) q h
      exact ⟨i + 1, by omega, by simpa using h2⟩
/-- the value below a place isn't a long whose second half stands there -/
def okS (L : List (Option Value)) : Nat → Bool
  | 0 => true
  | i + 1 => match L[i]? with
    | some (some u) => u.category == 1
    | _ => true
theorem lvl_st1 {ls : Array Slot} {nL i : Nat} {L : List (Option Value)} {v : Value} (hok : okS L i = true) (h : lv_has ls nL ((i, v) :: (lvl 0 L).filter (fun q => !(q.1 == i) && !(q.1 + 1 == i && q.2.category == 2)))) : lv_has ls nL (lvl 0 (L.set i (some v))) := by
  refine ⟨h.1, h.2.1, fun q hq => h.2.2 q ?_⟩
  obtain ⟨j, h1, h2⟩ := lvl_of _ 0 q hq
  rw [Nat.zero_add] at h1
  obtain ⟨a, u⟩ := q
  dsimp only at h1 h2
  subst h1
  by_cases hj : a = i
  · subst hj
    have hl : a < L.length := by
      have := (List.getElem?_eq_some_iff.mp h2).1
      simpa using this
    rw [List.getElem?_set_self hl] at h2
    cases h2
    exact List.mem_cons_self
  · rw [List.getElem?_set_ne (Ne.symm hj)] at h2
    refine List.mem_cons_of_mem _ (List.mem_filter.mpr ⟨by have := lvl_mem L 0 a u h2; rwa [Nat.zero_add] at this, ?_⟩)
    by_cases h3 : a + 1 = i
    · subst h3
      simp only [okS, h2] at hok
      simp at hok
      simp [hok]
    · simp [hj, h3]
theorem lvl_st2 {ls : Array Slot} {nL i : Nat} {L : List (Option Value)} {v : Value} (hok : okS L i = true) (h : lv_has ls nL ((i, v) :: (lvl 0 L).filter (fun q => !(q.1 == i) && (!(q.1 == i + 1) && !(q.1 + 1 == i && q.2.category == 2))))) : lv_has ls nL (lvl 0 ((L.set i (some v)).set (i + 1) none)) := by
  refine ⟨h.1, h.2.1, fun q hq => h.2.2 q ?_⟩
  obtain ⟨j, h1, h2⟩ := lvl_of _ 0 q hq
  rw [Nat.zero_add] at h1
  obtain ⟨a, u⟩ := q
  dsimp only at h1 h2
  subst h1
  by_cases h4 : a = i + 1
  · subst h4
    have hl : i + 1 < ((L.set i (some v)).set (i + 1) none).length := (List.getElem?_eq_some_iff.mp h2).1
    rw [List.getElem?_set_self (by simpa using hl)] at h2
    cases h2
  · rw [List.getElem?_set_ne (Ne.symm h4)] at h2
    by_cases hj : a = i
    · subst hj
      have hl : a < L.length := by
        have := (List.getElem?_eq_some_iff.mp h2).1
        simpa using this
      rw [List.getElem?_set_self hl] at h2
      cases h2
      exact List.mem_cons_self
    · rw [List.getElem?_set_ne (Ne.symm hj)] at h2
      refine List.mem_cons_of_mem _ (List.mem_filter.mpr ⟨by have := lvl_mem L 0 a u h2; rwa [Nat.zero_add] at this, ?_⟩)
      by_cases h3 : a + 1 = i
      · subst h3
        simp only [okS, h2] at hok
        simp at hok
        simp [hok]
        omega
      · simp [hj, h3, h4]
theorem lvl_get {ls : Array Slot} {nL i : Nat} {L : List (Option Value)} {v : Value} (h : lv_has ls nL (lvl 0 L)) (hi : L[i]? = some (some v)) : ls[i]? = some (.val v) := by
  have := h.2.2 _ (lvl_mem L 0 i v hi)
  simpa using this
/-- all that a walk has fixed: (p, l, e, R, s, m, args, below, meth, c, A, Q) -/
abbrev Cz : Type := Program × Launch × Env × Room × State × MethodId × Array Value × List Frame × Method × Code × (Nat → Prop) × (State → Prop)
def Cx (X : Cz) (l : Launch) (g : Gl) (y : MethodName) (cc : ByteArray) (nL : Nat) (r : Option FieldType) (rm : Room) : Prop := match X with
  | (p, l', _, R, s, m, args, _, meth, c, A, _) => p.tables.exec = Jvm.exec ∧ c.code = cc ∧ c.maxLocals = nL ∧ s.vm.findClass y.cls = some m.cls ∧ (∀ w ∈ TT, w.before args s = true) ∧ KK g s ∧ (∀ q, s.heap.size ≤ q → A q) ∧ meth.sig.returnType = r ∧ meth.locks = false ∧ meth.name = y.name ∧ R = rm ∧ l' = l
def Ce (X : Cz) (g : Gl) (post : Option Value → va_W → Prop) (rm : Room) : Prop := match X with
  | (_, _, _, _, s, _, args, below, _, _, A, Q) => Q = MQ below (Qg g post A) args s rm.cells rm.slots A
/-- at pc with the world ws, locals L, stack st, k cells and n slots made so far: the machine comes to its end -/
def SW (X : Cz) (g : Gl) (nL k n : Nat) (ws : va_W) (pc : Nat) (L : List (Option Value)) (st : List Value) : Prop := match X with
  | (p, l, e, R, s, m, args, below, meth, c, A, Q) => ∀ (H : Heap) (locs : List Loc) (ls : Array Slot), va_P g.1 vwCl ws H → va_D A ws → va_S A s.heap H locs → lv_has ls nL (lvl 0 L) → W p l e R s m args below meth c H locs k n Q (F0 m pc ls st)
theorem ct_of {l : Launch} {g : Gl} {y : MethodName} {b : ByteArray} {n : Nat} {r : Option FieldType} {rm : Room} {av : List Value} {w : va_W} {post : Option Value → va_W → Prop} (L0 : List (Option Value)) (hy : plainName y.cls = true) (hlen : (lg_sl av).length ≤ n) (hL : lvl 0 L0 = lv_args 0 av)
    (body : ∀ X : Cz, Cx X l g y b n r rm → Ce X g post rm → SW X g n 0 0 w 0 L0 []) : Ct l g y b n r rm av w post := by
  intro sz
  refine Met.ofW (cc := b) (maxL := n) (ret := r) hy rfl ?_
  intro p e s m args below meth c s₁ B hml hv
  obtain ⟨rfl, hsz, hP, hK, hD0⟩ := hv
  subst hsz
  have hts := atoms_spec (ws := wS y b n r) B.pre
  have h1 := body (p, l, e, rm, s, m, av.toArray, below, meth, c, va_A w s.heap.size, MQ below (Qg g post (va_A w s.heap.size)) av.toArray s rm.cells rm.slots (va_A w s.heap.size))
    ⟨B.exec, B.bytes, hml, findClass_of_methodNamed B.named, fun w h => hts w (List.mem_cons_of_mem _ h), hK, fun q h => Or.inr h, B.returns, B.notSynchronized, (name_of_methodNamed B.named B.method).1, rfl, rfl⟩ rfl
  rw [lg_entry_eq]
  refine h1 s.heap [] _ hP hD0.self va_S.rf ?_
  rw [hL]
  exact lv_entry av hlen
section SWL
variable {X : Cz} {l : Launch} {g : Gl} {y : MethodName} {cc : ByteArray} {nL k n pc : Nat} {r : Option FieldType} {rm : Room} {ws : va_W} {L : List (Option Value)} {st : List Value}
theorem sw_iadd (C : Cx X l g y cc nL r rm) {x z : Int32} (hd : decode cc pc = .ok (.iadd, 1))  (kk : SW X g nL k n ws (pc + 1) L (.int (x + z) :: st)) : SW X g nL k n ws (pc) L (.int z :: .int x :: st) := by
  obtain ⟨p, l0, e, R, s, m, args, below, meth, c, A, Q⟩ := X
  obtain ⟨hx, hb, hml, hown, hts, hK, hA, hr, hlk, hnm, hrm, hl0⟩ := C
  intro H locs ls hP hD hS hL
  exact lv_iadd hx hb hd  (kk H locs ls hP hD hS hL)
theorem sw_isub (C : Cx X l g y cc nL r rm) {x z : Int32} (hd : decode cc pc = .ok (.isub, 1))  (kk : SW X g nL k n ws (pc + 1) L (.int (x - z) :: st)) : SW X g nL k n ws (pc) L (.int z :: .int x :: st) := by
  obtain ⟨p, l0, e, R, s, m, args, below, meth, c, A, Q⟩ := X
  obtain ⟨hx, hb, hml, hown, hts, hK, hA, hr, hlk, hnm, hrm, hl0⟩ := C
  intro H locs ls hP hD hS hL
  exact lv_isub hx hb hd  (kk H locs ls hP hD hS hL)
theorem sw_imul (C : Cx X l g y cc nL r rm) {x z : Int32} (hd : decode cc pc = .ok (.imul, 1))  (kk : SW X g nL k n ws (pc + 1) L (.int (x * z) :: st)) : SW X g nL k n ws (pc) L (.int z :: .int x :: st) := by
  obtain ⟨p, l0, e, R, s, m, args, below, meth, c, A, Q⟩ := X
  obtain ⟨hx, hb, hml, hown, hts, hK, hA, hr, hlk, hnm, hrm, hl0⟩ := C
  intro H locs ls hP hD hS hL
  exact lv_imul hx hb hd  (kk H locs ls hP hD hS hL)
theorem sw_iand (C : Cx X l g y cc nL r rm) {x z : Int32} (hd : decode cc pc = .ok (.iand, 1))  (kk : SW X g nL k n ws (pc + 1) L (.int (x &&& z) :: st)) : SW X g nL k n ws (pc) L (.int z :: .int x :: st) := by
  obtain ⟨p, l0, e, R, s, m, args, below, meth, c, A, Q⟩ := X
  obtain ⟨hx, hb, hml, hown, hts, hK, hA, hr, hlk, hnm, hrm, hl0⟩ := C
  intro H locs ls hP hD hS hL
  exact lv_iand hx hb hd  (kk H locs ls hP hD hS hL)
theorem sw_ior (C : Cx X l g y cc nL r rm) {x z : Int32} (hd : decode cc pc = .ok (.ior, 1))  (kk : SW X g nL k n ws (pc + 1) L (.int (x ||| z) :: st)) : SW X g nL k n ws (pc) L (.int z :: .int x :: st) := by
  obtain ⟨p, l0, e, R, s, m, args, below, meth, c, A, Q⟩ := X
  obtain ⟨hx, hb, hml, hown, hts, hK, hA, hr, hlk, hnm, hrm, hl0⟩ := C
  intro H locs ls hP hD hS hL
  exact lv_ior hx hb hd  (kk H locs ls hP hD hS hL)
theorem sw_ixor (C : Cx X l g y cc nL r rm) {x z : Int32} (hd : decode cc pc = .ok (.ixor, 1))  (kk : SW X g nL k n ws (pc + 1) L (.int (x ^^^ z) :: st)) : SW X g nL k n ws (pc) L (.int z :: .int x :: st) := by
  obtain ⟨p, l0, e, R, s, m, args, below, meth, c, A, Q⟩ := X
  obtain ⟨hx, hb, hml, hown, hts, hK, hA, hr, hlk, hnm, hrm, hl0⟩ := C
  intro H locs ls hP hD hS hL
  exact lv_ixor hx hb hd  (kk H locs ls hP hD hS hL)
theorem sw_ishl (C : Cx X l g y cc nL r rm) {x z : Int32} (hd : decode cc pc = .ok (.ishl, 1))  (kk : SW X g nL k n ws (pc + 1) L (.int (x <<< (z &&& 31)) :: st)) : SW X g nL k n ws (pc) L (.int z :: .int x :: st) := by
  obtain ⟨p, l0, e, R, s, m, args, below, meth, c, A, Q⟩ := X
  obtain ⟨hx, hb, hml, hown, hts, hK, hA, hr, hlk, hnm, hrm, hl0⟩ := C
  intro H locs ls hP hD hS hL
  exact lv_ishl hx hb hd  (kk H locs ls hP hD hS hL)
theorem sw_ishr (C : Cx X l g y cc nL r rm) {x z : Int32} (hd : decode cc pc = .ok (.ishr, 1))  (kk : SW X g nL k n ws (pc + 1) L (.int (x >>> (z &&& 31)) :: st)) : SW X g nL k n ws (pc) L (.int z :: .int x :: st) := by
  obtain ⟨p, l0, e, R, s, m, args, below, meth, c, A, Q⟩ := X
  obtain ⟨hx, hb, hml, hown, hts, hK, hA, hr, hlk, hnm, hrm, hl0⟩ := C
  intro H locs ls hP hD hS hL
  exact lv_ishr hx hb hd  (kk H locs ls hP hD hS hL)
theorem sw_idiv (C : Cx X l g y cc nL r rm) {x z : Int32} (hd : decode cc pc = .ok (.idiv, 1)) (hne : ¬ z = 0) (kk : SW X g nL k n ws (pc + 1) L (.int (x / z) :: st)) : SW X g nL k n ws (pc) L (.int z :: .int x :: st) := by
  obtain ⟨p, l0, e, R, s, m, args, below, meth, c, A, Q⟩ := X
  obtain ⟨hx, hb, hml, hown, hts, hK, hA, hr, hlk, hnm, hrm, hl0⟩ := C
  intro H locs ls hP hD hS hL
  exact lv_idiv hx hb hd hne (kk H locs ls hP hD hS hL)
theorem sw_irem (C : Cx X l g y cc nL r rm) {x z : Int32} (hd : decode cc pc = .ok (.irem, 1)) (hne : ¬ z = 0) (kk : SW X g nL k n ws (pc + 1) L (.int (x - x / z * z) :: st)) : SW X g nL k n ws (pc) L (.int z :: .int x :: st) := by
  obtain ⟨p, l0, e, R, s, m, args, below, meth, c, A, Q⟩ := X
  obtain ⟨hx, hb, hml, hown, hts, hK, hA, hr, hlk, hnm, hrm, hl0⟩ := C
  intro H locs ls hP hD hS hL
  exact lv_irem hx hb hd hne (kk H locs ls hP hD hS hL)
theorem sw_ineg (C : Cx X l g y cc nL r rm) {x : Int32} (hd : decode cc pc = .ok (.ineg, 1))  (kk : SW X g nL k n ws (pc + 1) L (.int (-x) :: st)) : SW X g nL k n ws (pc) L (.int x :: st) := by
  obtain ⟨p, l0, e, R, s, m, args, below, meth, c, A, Q⟩ := X
  obtain ⟨hx, hb, hml, hown, hts, hK, hA, hr, hlk, hnm, hrm, hl0⟩ := C
  intro H locs ls hP hD hS hL
  exact lv_ineg hx hb hd  (kk H locs ls hP hD hS hL)
theorem sw_ladd (C : Cx X l g y cc nL r rm) {x z : Int64} (hd : decode cc pc = .ok (.ladd, 1))  (kk : SW X g nL k n ws (pc + 1) L (.long (x + z) :: st)) : SW X g nL k n ws (pc) L (.long z :: .long x :: st) := by
  obtain ⟨p, l0, e, R, s, m, args, below, meth, c, A, Q⟩ := X
  obtain ⟨hx, hb, hml, hown, hts, hK, hA, hr, hlk, hnm, hrm, hl0⟩ := C
  intro H locs ls hP hD hS hL
  exact lv_ladd hx hb hd  (kk H locs ls hP hD hS hL)
theorem sw_lsub (C : Cx X l g y cc nL r rm) {x z : Int64} (hd : decode cc pc = .ok (.lsub, 1))  (kk : SW X g nL k n ws (pc + 1) L (.long (x - z) :: st)) : SW X g nL k n ws (pc) L (.long z :: .long x :: st) := by
  obtain ⟨p, l0, e, R, s, m, args, below, meth, c, A, Q⟩ := X
  obtain ⟨hx, hb, hml, hown, hts, hK, hA, hr, hlk, hnm, hrm, hl0⟩ := C
  intro H locs ls hP hD hS hL
  exact lv_lsub hx hb hd  (kk H locs ls hP hD hS hL)
theorem sw_land (C : Cx X l g y cc nL r rm) {x z : Int64} (hd : decode cc pc = .ok (.land, 1))  (kk : SW X g nL k n ws (pc + 1) L (.long (x &&& z) :: st)) : SW X g nL k n ws (pc) L (.long z :: .long x :: st) := by
  obtain ⟨p, l0, e, R, s, m, args, below, meth, c, A, Q⟩ := X
  obtain ⟨hx, hb, hml, hown, hts, hK, hA, hr, hlk, hnm, hrm, hl0⟩ := C
  intro H locs ls hP hD hS hL
  exact lv_land hx hb hd  (kk H locs ls hP hD hS hL)
theorem sw_lor (C : Cx X l g y cc nL r rm) {x z : Int64} (hd : decode cc pc = .ok (.lor, 1))  (kk : SW X g nL k n ws (pc + 1) L (.long (x ||| z) :: st)) : SW X g nL k n ws (pc) L (.long z :: .long x :: st) := by
  obtain ⟨p, l0, e, R, s, m, args, below, meth, c, A, Q⟩ := X
  obtain ⟨hx, hb, hml, hown, hts, hK, hA, hr, hlk, hnm, hrm, hl0⟩ := C
  intro H locs ls hP hD hS hL
  exact lv_lor hx hb hd  (kk H locs ls hP hD hS hL)
theorem sw_lxor (C : Cx X l g y cc nL r rm) {x z : Int64} (hd : decode cc pc = .ok (.lxor, 1))  (kk : SW X g nL k n ws (pc + 1) L (.long (x ^^^ z) :: st)) : SW X g nL k n ws (pc) L (.long z :: .long x :: st) := by
  obtain ⟨p, l0, e, R, s, m, args, below, meth, c, A, Q⟩ := X
  obtain ⟨hx, hb, hml, hown, hts, hK, hA, hr, hlk, hnm, hrm, hl0⟩ := C
  intro H locs ls hP hD hS hL
  exact lv_lxor hx hb hd  (kk H locs ls hP hD hS hL)
theorem sw_i2l (C : Cx X l g y cc nL r rm) {x : Int32} (hd : decode cc pc = .ok (.i2l, 1))  (kk : SW X g nL k n ws (pc + 1) L (.long x.toInt64 :: st)) : SW X g nL k n ws (pc) L (.int x :: st) := by
  obtain ⟨p, l0, e, R, s, m, args, below, meth, c, A, Q⟩ := X
  obtain ⟨hx, hb, hml, hown, hts, hK, hA, hr, hlk, hnm, hrm, hl0⟩ := C
  intro H locs ls hP hD hS hL
  exact lv_i2l hx hb hd rfl (kk H locs ls hP hD hS hL)
theorem sw_l2i (C : Cx X l g y cc nL r rm) {x : Int64} (hd : decode cc pc = .ok (.l2i, 1))  (kk : SW X g nL k n ws (pc + 1) L (.int x.toInt32 :: st)) : SW X g nL k n ws (pc) L (.long x :: st) := by
  obtain ⟨p, l0, e, R, s, m, args, below, meth, c, A, Q⟩ := X
  obtain ⟨hx, hb, hml, hown, hts, hK, hA, hr, hlk, hnm, hrm, hl0⟩ := C
  intro H locs ls hP hD hS hL
  exact lv_l2i hx hb hd rfl (kk H locs ls hP hD hS hL)
theorem sw_lushr (C : Cx X l g y cc nL r rm) {x : Int64} {z : Int32} (hd : decode cc pc = .ok (.lushr, 1))  (kk : SW X g nL k n ws (pc + 1) L (.long (x.toUInt64 >>> (z.toInt64.toUInt64 &&& Int64.toUInt64 63)).toInt64 :: st)) : SW X g nL k n ws (pc) L (.int z :: .long x :: st) := by
  obtain ⟨p, l0, e, R, s, m, args, below, meth, c, A, Q⟩ := X
  obtain ⟨hx, hb, hml, hown, hts, hK, hA, hr, hlk, hnm, hrm, hl0⟩ := C
  intro H locs ls hP hD hS hL
  exact lv_lushr hx hb hd rfl (kk H locs ls hP hD hS hL)
theorem sw_lshl (C : Cx X l g y cc nL r rm) {x : Int64} {z : Int32} (hd : decode cc pc = .ok (.lshl, 1))  (kk : SW X g nL k n ws (pc + 1) L (.long (x <<< (z.toInt64 &&& 63)) :: st)) : SW X g nL k n ws (pc) L (.int z :: .long x :: st) := by
  obtain ⟨p, l0, e, R, s, m, args, below, meth, c, A, Q⟩ := X
  obtain ⟨hx, hb, hml, hown, hts, hK, hA, hr, hlk, hnm, hrm, hl0⟩ := C
  intro H locs ls hP hD hS hL
  exact lv_lshl hx hb hd rfl (kk H locs ls hP hD hS hL)
theorem sw_lcmp (C : Cx X l g y cc nL r rm) {x z : Int64} (hd : decode cc pc = .ok (.lcmp, 1))  (kk : SW X g nL k n ws (pc + 1) L (.int (lg_cmp x z) :: st)) : SW X g nL k n ws (pc) L (.long z :: .long x :: st) := by
  obtain ⟨p, l0, e, R, s, m, args, below, meth, c, A, Q⟩ := X
  obtain ⟨hx, hb, hml, hown, hts, hK, hA, hr, hlk, hnm, hrm, hl0⟩ := C
  intro H locs ls hP hD hS hL
  exact W.lcmp hx hb hd  (kk H locs ls hP hD hS hL)
theorem sw_dup (C : Cx X l g y cc nL r rm) {va : Value} (hd : decode cc pc = .ok (.dup, 1)) (hc : va.category = 1) (kk : SW X g nL k n ws (pc + 1) L (va :: va :: st)) : SW X g nL k n ws (pc) L (va :: st) := by
  obtain ⟨p, l0, e, R, s, m, args, below, meth, c, A, Q⟩ := X
  obtain ⟨hx, hb, hml, hown, hts, hK, hA, hr, hlk, hnm, hrm, hl0⟩ := C
  intro H locs ls hP hD hS hL
  exact lv_dup hx hb hd hc (kk H locs ls hP hD hS hL)
theorem sw_pop (C : Cx X l g y cc nL r rm) {va : Value} (hd : decode cc pc = .ok (.pop, 1)) (hc : va.category = 1) (kk : SW X g nL k n ws (pc + 1) L st) : SW X g nL k n ws (pc) L (va :: st) := by
  obtain ⟨p, l0, e, R, s, m, args, below, meth, c, A, Q⟩ := X
  obtain ⟨hx, hb, hml, hown, hts, hK, hA, hr, hlk, hnm, hrm, hl0⟩ := C
  intro H locs ls hP hD hS hL
  exact lv_pop hx hb hd hc (kk H locs ls hP hD hS hL)
theorem sw_pop2L (C : Cx X l g y cc nL r rm) {va : Value} (hd : decode cc pc = .ok (.pop2, 1)) (hc : va.category = 2) (kk : SW X g nL k n ws (pc + 1) L st) : SW X g nL k n ws (pc) L (va :: st) := by
  obtain ⟨p, l0, e, R, s, m, args, below, meth, c, A, Q⟩ := X
  obtain ⟨hx, hb, hml, hown, hts, hK, hA, hr, hlk, hnm, hrm, hl0⟩ := C
  intro H locs ls hP hD hS hL
  exact lv_pop2_2 hx hb hd hc (kk H locs ls hP hD hS hL)
theorem sw_dup_x1 (C : Cx X l g y cc nL r rm) {va vb : Value} (hd : decode cc pc = .ok (.dup_x1, 1)) (h1 : va.category = 1) (h2 : vb.category = 1) (kk : SW X g nL k n ws (pc + 1) L (va :: vb :: va :: st)) : SW X g nL k n ws (pc) L (va :: vb :: st) := by
  obtain ⟨p, l0, e, R, s, m, args, below, meth, c, A, Q⟩ := X
  obtain ⟨hx, hb, hml, hown, hts, hK, hA, hr, hlk, hnm, hrm, hl0⟩ := C
  intro H locs ls hP hD hS hL
  exact lv_dup_x1 hx hb hd h1 h2 (kk H locs ls hP hD hS hL)
theorem sw_dup_x2 (C : Cx X l g y cc nL r rm) {va vb vd : Value} (hd : decode cc pc = .ok (.dup_x2, 1)) (h1 : va.category = 1) (h2 : vb.category = 1) (h3 : vd.category = 1) (kk : SW X g nL k n ws (pc + 1) L (va :: vb :: vd :: va :: st)) : SW X g nL k n ws (pc) L (va :: vb :: vd :: st) := by
  obtain ⟨p, l0, e, R, s, m, args, below, meth, c, A, Q⟩ := X
  obtain ⟨hx, hb, hml, hown, hts, hK, hA, hr, hlk, hnm, hrm, hl0⟩ := C
  intro H locs ls hP hD hS hL
  exact lv_dup_x2 hx hb hd h1 h2 h3 (kk H locs ls hP hD hS hL)
theorem sw_dup2 (C : Cx X l g y cc nL r rm) {va vb : Value} (hd : decode cc pc = .ok (.dup2, 1)) (h1 : va.category = 1) (h2 : vb.category = 1) (kk : SW X g nL k n ws (pc + 1) L (va :: vb :: va :: vb :: st)) : SW X g nL k n ws (pc) L (va :: vb :: st) := by
  obtain ⟨p, l0, e, R, s, m, args, below, meth, c, A, Q⟩ := X
  obtain ⟨hx, hb, hml, hown, hts, hK, hA, hr, hlk, hnm, hrm, hl0⟩ := C
  intro H locs ls hP hD hS hL
  exact lv_dup2_11 hx hb hd h1 h2 (kk H locs ls hP hD hS hL)
theorem sw_iconst (C : Cx X l g y cc nL r rm) {i : Int} (v : Int32) (hd : decode cc pc = .ok (.iconst i, 1)) (hv : Int32.ofInt i = v) (kk : SW X g nL k n ws (pc + 1) L (.int v :: st)) : SW X g nL k n ws (pc) L st := by
  obtain ⟨p, l0, e, R, s, m, args, below, meth, c, A, Q⟩ := X
  obtain ⟨hx, hb, hml, hown, hts, hK, hA, hr, hlk, hnm, hrm, hl0⟩ := C
  intro H locs ls hP hD hS hL
  exact lv_iconst hx hb hd hv (kk H locs ls hP hD hS hL)
theorem sw_bipush (C : Cx X l g y cc nL r rm) {i : Int} (v : Int32) (hd : decode cc pc = .ok (.bipush i, 2)) (hv : (Int8.ofInt i).toInt32 = v) (kk : SW X g nL k n ws (pc + 2) L (.int v :: st)) : SW X g nL k n ws (pc) L st := by
  obtain ⟨p, l0, e, R, s, m, args, below, meth, c, A, Q⟩ := X
  obtain ⟨hx, hb, hml, hown, hts, hK, hA, hr, hlk, hnm, hrm, hl0⟩ := C
  intro H locs ls hP hD hS hL
  exact lv_bipush hx hb hd hv (kk H locs ls hP hD hS hL)
theorem sw_sipush (C : Cx X l g y cc nL r rm) {i : Int} (v : Int32) (hd : decode cc pc = .ok (.sipush i, 3)) (hv : (Int16.ofInt i).toInt32 = v) (kk : SW X g nL k n ws (pc + 3) L (.int v :: st)) : SW X g nL k n ws (pc) L st := by
  obtain ⟨p, l0, e, R, s, m, args, below, meth, c, A, Q⟩ := X
  obtain ⟨hx, hb, hml, hown, hts, hK, hA, hr, hlk, hnm, hrm, hl0⟩ := C
  intro H locs ls hP hD hS hL
  exact lv_sipush hx hb hd hv (kk H locs ls hP hD hS hL)
theorem sw_lconst (C : Cx X l g y cc nL r rm) {i : Fin 2} (v : Int64) (hd : decode cc pc = .ok (.lconst i, 1)) (hv : Int64.ofNat (i : Nat) = v) (kk : SW X g nL k n ws (pc + 1) L (.long v :: st)) : SW X g nL k n ws (pc) L st := by
  obtain ⟨p, l0, e, R, s, m, args, below, meth, c, A, Q⟩ := X
  obtain ⟨hx, hb, hml, hown, hts, hK, hA, hr, hlk, hnm, hrm, hl0⟩ := C
  intro H locs ls hP hD hS hL
  exact lv_lconst hx hb hd hv (kk H locs ls hP hD hS hL)
theorem sw_null (C : Cx X l g y cc nL r rm)  (hd : decode cc pc = .ok (.aconst_null, 1))  (kk : SW X g nL k n ws (pc + 1) L (.null :: st)) : SW X g nL k n ws (pc) L st := by
  obtain ⟨p, l0, e, R, s, m, args, below, meth, c, A, Q⟩ := X
  obtain ⟨hx, hb, hml, hown, hts, hK, hA, hr, hlk, hnm, hrm, hl0⟩ := C
  intro H locs ls hP hD hS hL
  exact lv_null hx hb hd  (kk H locs ls hP hD hS hL)
theorem sw_ldc (C : Cx X l g y cc nL r rm) {index : Nat} {v : Int32} (hw : Cond.constant y.cls index v ∈ TT) (hd : decode cc pc = .ok (.ldc index, 2)) (kk : SW X g nL k n ws (pc + 2) L (.int v :: st)) : SW X g nL k n ws (pc) L st := by
  obtain ⟨p, l0, e, R, s, m, args, below, meth, c, A, Q⟩ := X
  obtain ⟨hx, hb, hml, hown, hts, hK, hA, hr, hlk, hnm, hrm, hl0⟩ := C
  intro H locs ls hP hD hS hL
  exact lv_ldc hx hb hown (hts _ hw) hd (kk H locs ls hP hD hS hL)
theorem sw_ldc2 (C : Cx X l g y cc nL r rm) {index : Nat} {v : Int64} (hw : Cond.constantLong y.cls index v ∈ TT) (hd : decode cc pc = .ok (.ldc2_w index, 3)) (kk : SW X g nL k n ws (pc + 3) L (.long v :: st)) : SW X g nL k n ws (pc) L st := by
  obtain ⟨p, l0, e, R, s, m, args, below, meth, c, A, Q⟩ := X
  obtain ⟨hx, hb, hml, hown, hts, hK, hA, hr, hlk, hnm, hrm, hl0⟩ := C
  intro H locs ls hP hD hS hL
  exact lv_ldc2 hx hb hown (hts _ hw) hd (kk H locs ls hP hD hS hL)
theorem sw_iload_n (C : Cx X l g y cc nL r rm) {j : Fin 4} {i : Nat} {x : Int32} (hd : decode cc pc = .ok (.iload_n j, 1)) (hi : (j : Nat) = i) (hv : L[i]? = some (some (.int x))) (kk : SW X g nL k n ws (pc + 1) L (.int x :: st)) : SW X g nL k n ws (pc) L st := by
  obtain ⟨p, l0, e, R, s, m, args, below, meth, c, A, Q⟩ := X
  obtain ⟨hx, hb, hml, hown, hts, hK, hA, hr, hlk, hnm, hrm, hl0⟩ := C
  intro H locs ls hP hD hS hL
  exact lv_iload_n hx hb hd hi (lvl_get hL hv) (kk H locs ls hP hD hS hL)
theorem sw_iload (C : Cx X l g y cc nL r rm) {i : Nat} {x : Int32} (hd : decode cc pc = .ok (.iload i, 2)) (hv : L[i]? = some (some (.int x))) (kk : SW X g nL k n ws (pc + 2) L (.int x :: st)) : SW X g nL k n ws (pc) L st := by
  obtain ⟨p, l0, e, R, s, m, args, below, meth, c, A, Q⟩ := X
  obtain ⟨hx, hb, hml, hown, hts, hK, hA, hr, hlk, hnm, hrm, hl0⟩ := C
  intro H locs ls hP hD hS hL
  exact lv_iload hx hb hd (lvl_get hL hv) (kk H locs ls hP hD hS hL)
theorem sw_lload_n (C : Cx X l g y cc nL r rm) {j : Fin 4} {i : Nat} {x : Int64} (hd : decode cc pc = .ok (.lload_n j, 1)) (hi : (j : Nat) = i) (hv : L[i]? = some (some (.long x))) (kk : SW X g nL k n ws (pc + 1) L (.long x :: st)) : SW X g nL k n ws (pc) L st := by
  obtain ⟨p, l0, e, R, s, m, args, below, meth, c, A, Q⟩ := X
  obtain ⟨hx, hb, hml, hown, hts, hK, hA, hr, hlk, hnm, hrm, hl0⟩ := C
  intro H locs ls hP hD hS hL
  exact lv_lload_n hx hb hd hi (lvl_get hL hv) (kk H locs ls hP hD hS hL)
theorem sw_lload (C : Cx X l g y cc nL r rm) {i : Nat} {x : Int64} (hd : decode cc pc = .ok (.lload i, 2)) (hv : L[i]? = some (some (.long x))) (kk : SW X g nL k n ws (pc + 2) L (.long x :: st)) : SW X g nL k n ws (pc) L st := by
  obtain ⟨p, l0, e, R, s, m, args, below, meth, c, A, Q⟩ := X
  obtain ⟨hx, hb, hml, hown, hts, hK, hA, hr, hlk, hnm, hrm, hl0⟩ := C
  intro H locs ls hP hD hS hL
  exact lv_lload hx hb hd (lvl_get hL hv) (kk H locs ls hP hD hS hL)
theorem sw_aload_n (C : Cx X l g y cc nL r rm) {j : Fin 4} {i : Nat} {x : Nat} (hd : decode cc pc = .ok (.aload_n j, 1)) (hi : (j : Nat) = i) (hv : L[i]? = some (some (.ref x))) (kk : SW X g nL k n ws (pc + 1) L (.ref x :: st)) : SW X g nL k n ws (pc) L st := by
  obtain ⟨p, l0, e, R, s, m, args, below, meth, c, A, Q⟩ := X
  obtain ⟨hx, hb, hml, hown, hts, hK, hA, hr, hlk, hnm, hrm, hl0⟩ := C
  intro H locs ls hP hD hS hL
  exact lv_aload_n hx hb hd hi (lvl_get hL hv) (kk H locs ls hP hD hS hL)
theorem sw_aload (C : Cx X l g y cc nL r rm) {i : Nat} {x : Nat} (hd : decode cc pc = .ok (.aload i, 2)) (hv : L[i]? = some (some (.ref x))) (kk : SW X g nL k n ws (pc + 2) L (.ref x :: st)) : SW X g nL k n ws (pc) L st := by
  obtain ⟨p, l0, e, R, s, m, args, below, meth, c, A, Q⟩ := X
  obtain ⟨hx, hb, hml, hown, hts, hK, hA, hr, hlk, hnm, hrm, hl0⟩ := C
  intro H locs ls hP hD hS hL
  exact lv_aload hx hb hd (lvl_get hL hv) (kk H locs ls hP hD hS hL)
theorem sw_aload_nN (C : Cx X l g y cc nL r rm) {j : Fin 4} {i : Nat} (hd : decode cc pc = .ok (.aload_n j, 1)) (hi : (j : Nat) = i) (hv : L[i]? = some (some .null)) (kk : SW X g nL k n ws (pc + 1) L (.null :: st)) : SW X g nL k n ws (pc) L st := by
  obtain ⟨p, l0, e, R, s, m, args, below, meth, c, A, Q⟩ := X
  obtain ⟨hx, hb, hml, hown, hts, hK, hA, hr, hlk, hnm, hrm, hl0⟩ := C
  intro H locs ls hP hD hS hL
  exact lv_aload_nN hx hb hd hi (lvl_get hL hv) (kk H locs ls hP hD hS hL)
theorem sw_aloadN (C : Cx X l g y cc nL r rm) {i : Nat} (hd : decode cc pc = .ok (.aload i, 2)) (hv : L[i]? = some (some .null)) (kk : SW X g nL k n ws (pc + 2) L (.null :: st)) : SW X g nL k n ws (pc) L st := by
  obtain ⟨p, l0, e, R, s, m, args, below, meth, c, A, Q⟩ := X
  obtain ⟨hx, hb, hml, hown, hts, hK, hA, hr, hlk, hnm, hrm, hl0⟩ := C
  intro H locs ls hP hD hS hL
  exact lv_aloadN hx hb hd (lvl_get hL hv) (kk H locs ls hP hD hS hL)
theorem sw_istore_n (C : Cx X l g y cc nL r rm) {j : Fin 4} {i : Nat} {x : Int32} (hd : decode cc pc = .ok (.istore_n j, 1)) (hi : (j : Nat) = i) (hn : i < nL) (hok : okS L i = true) (kk : SW X g nL k n ws (pc + 1) (L.set i (some (.int x))) st) : SW X g nL k n ws (pc) L (.int x :: st) := by
  obtain ⟨p, l0, e, R, s, m, args, below, meth, c, A, Q⟩ := X
  obtain ⟨hx, hb, hml, hown, hts, hK, hA, hr, hlk, hnm, hrm, hl0⟩ := C
  intro H locs ls hP hD hS hL
  exact lv_istore_n hx hb hd hi hL hn rfl (fun ls' h' => kk H locs ls' hP hD hS (lvl_st1 hok h'))
theorem sw_istore (C : Cx X l g y cc nL r rm) {i : Nat} {x : Int32} (hd : decode cc pc = .ok (.istore i, 2)) (hn : i < nL) (hok : okS L i = true) (kk : SW X g nL k n ws (pc + 2) (L.set i (some (.int x))) st) : SW X g nL k n ws (pc) L (.int x :: st) := by
  obtain ⟨p, l0, e, R, s, m, args, below, meth, c, A, Q⟩ := X
  obtain ⟨hx, hb, hml, hown, hts, hK, hA, hr, hlk, hnm, hrm, hl0⟩ := C
  intro H locs ls hP hD hS hL
  exact lv_istore hx hb hd hL hn rfl (fun ls' h' => kk H locs ls' hP hD hS (lvl_st1 hok h'))
theorem sw_astore_n (C : Cx X l g y cc nL r rm) {j : Fin 4} {i : Nat} {x : Nat} (hd : decode cc pc = .ok (.astore_n j, 1)) (hi : (j : Nat) = i) (hn : i < nL) (hok : okS L i = true) (kk : SW X g nL k n ws (pc + 1) (L.set i (some (.ref x))) st) : SW X g nL k n ws (pc) L (.ref x :: st) := by
  obtain ⟨p, l0, e, R, s, m, args, below, meth, c, A, Q⟩ := X
  obtain ⟨hx, hb, hml, hown, hts, hK, hA, hr, hlk, hnm, hrm, hl0⟩ := C
  intro H locs ls hP hD hS hL
  exact lv_astore_n hx hb hd hi hL hn rfl (fun ls' h' => kk H locs ls' hP hD hS (lvl_st1 hok h'))
theorem sw_astore (C : Cx X l g y cc nL r rm) {i : Nat} {x : Nat} (hd : decode cc pc = .ok (.astore i, 2)) (hn : i < nL) (hok : okS L i = true) (kk : SW X g nL k n ws (pc + 2) (L.set i (some (.ref x))) st) : SW X g nL k n ws (pc) L (.ref x :: st) := by
  obtain ⟨p, l0, e, R, s, m, args, below, meth, c, A, Q⟩ := X
  obtain ⟨hx, hb, hml, hown, hts, hK, hA, hr, hlk, hnm, hrm, hl0⟩ := C
  intro H locs ls hP hD hS hL
  exact lv_astore hx hb hd hL hn rfl (fun ls' h' => kk H locs ls' hP hD hS (lvl_st1 hok h'))
theorem sw_astore_nN (C : Cx X l g y cc nL r rm) {j : Fin 4} {i : Nat} (hd : decode cc pc = .ok (.astore_n j, 1)) (hi : (j : Nat) = i) (hn : i < nL) (hok : okS L i = true) (kk : SW X g nL k n ws (pc + 1) (L.set i (some .null)) st) : SW X g nL k n ws (pc) L (.null :: st) := by
  obtain ⟨p, l0, e, R, s, m, args, below, meth, c, A, Q⟩ := X
  obtain ⟨hx, hb, hml, hown, hts, hK, hA, hr, hlk, hnm, hrm, hl0⟩ := C
  intro H locs ls hP hD hS hL
  exact lv_astore_nN hx hb hd hi hL hn rfl (fun ls' h' => kk H locs ls' hP hD hS (lvl_st1 hok h'))
theorem sw_astoreN (C : Cx X l g y cc nL r rm) {i : Nat} (hd : decode cc pc = .ok (.astore i, 2)) (hn : i < nL) (hok : okS L i = true) (kk : SW X g nL k n ws (pc + 2) (L.set i (some .null)) st) : SW X g nL k n ws (pc) L (.null :: st) := by
  obtain ⟨p, l0, e, R, s, m, args, below, meth, c, A, Q⟩ := X
  obtain ⟨hx, hb, hml, hown, hts, hK, hA, hr, hlk, hnm, hrm, hl0⟩ := C
  intro H locs ls hP hD hS hL
  exact lv_astoreN hx hb hd hL hn rfl (fun ls' h' => kk H locs ls' hP hD hS (lvl_st1 hok h'))
theorem sw_lstore_n (C : Cx X l g y cc nL r rm) {j : Fin 4} {i : Nat} {x : Int64} (hd : decode cc pc = .ok (.lstore_n j, 1)) (hi : (j : Nat) = i) (hn : i + 1 < nL) (hok : okS L i = true) (kk : SW X g nL k n ws (pc + 1) ((L.set i (some (.long x))).set (i + 1) none) st) : SW X g nL k n ws (pc) L (.long x :: st) := by
  obtain ⟨p, l0, e, R, s, m, args, below, meth, c, A, Q⟩ := X
  obtain ⟨hx, hb, hml, hown, hts, hK, hA, hr, hlk, hnm, hrm, hl0⟩ := C
  intro H locs ls hP hD hS hL
  exact lv_lstore_n hx hb hd hi hL hn rfl (fun ls' h' => kk H locs ls' hP hD hS (lvl_st2 hok h'))
theorem sw_lstore (C : Cx X l g y cc nL r rm) {i : Nat} {x : Int64} (hd : decode cc pc = .ok (.lstore i, 2)) (hn : i + 1 < nL) (hok : okS L i = true) (kk : SW X g nL k n ws (pc + 2) ((L.set i (some (.long x))).set (i + 1) none) st) : SW X g nL k n ws (pc) L (.long x :: st) := by
  obtain ⟨p, l0, e, R, s, m, args, below, meth, c, A, Q⟩ := X
  obtain ⟨hx, hb, hml, hown, hts, hK, hA, hr, hlk, hnm, hrm, hl0⟩ := C
  intro H locs ls hP hD hS hL
  exact lv_lstore hx hb hd hL hn rfl (fun ls' h' => kk H locs ls' hP hD hS (lvl_st2 hok h'))
theorem sw_iinc (C : Cx X l g y cc nL r rm) {i : Nat} {d : Int} {x : Int32} (dv : Int32) (hd : decode cc pc = .ok (.iinc i d, 3)) (hv : L[i]? = some (some (.int x))) (hdv : Int32.ofInt d = dv) (hn : i < nL) (hok : okS L i = true) (kk : SW X g nL k n ws (pc + 3) (L.set i (some (.int (x + dv)))) st) : SW X g nL k n ws (pc) L st := by
  obtain ⟨p, l0, e, R, s, m, args, below, meth, c, A, Q⟩ := X
  obtain ⟨hx, hb, hml, hown, hts, hK, hA, hr, hlk, hnm, hrm, hl0⟩ := C
  intro H locs ls hP hD hS hL
  obtain ⟨q, hq⟩ := List.getElem?_of_mem (lvl_mem L 0 i _ hv)
  rw [Nat.zero_add] at hq
  exact lv_iinc (v := x + dv) hx hb hd hL hq (by rw [hdv]) hn rfl (fun ls' h' => kk H locs ls' hP hD hS (lvl_st1 hok h'))
theorem sw_if_eq (C : Cx X l g y cc nL r rm) {x : Int32} {off : Int} (tgt : Nat) (hd : decode cc pc = .ok (.ifCond .eq off, 3)) (ht : (pc : Int) + off = (tgt : Int)) (kt : x = 0 → SW X g nL k n ws (tgt) L st) (kf : ¬ x = 0 → SW X g nL k n ws (pc + 3) L st) : SW X g nL k n ws (pc) L (.int x :: st) := by
  obtain ⟨p, l0, e, R, s, m, args, below, meth, c, A, Q⟩ := X
  obtain ⟨hx, hb, hml, hown, hts, hK, hA, hr, hlk, hnm, hrm, hl0⟩ := C
  intro H locs ls hP hD hS hL
  exact lv_if_eq hx hb hd ht (fun h => kt h H locs ls hP hD hS hL) (fun h => kf h H locs ls hP hD hS hL)
theorem sw_if_ne (C : Cx X l g y cc nL r rm) {x : Int32} {off : Int} (tgt : Nat) (hd : decode cc pc = .ok (.ifCond .ne off, 3)) (ht : (pc : Int) + off = (tgt : Int)) (kt : ¬ x = 0 → SW X g nL k n ws (tgt) L st) (kf : x = 0 → SW X g nL k n ws (pc + 3) L st) : SW X g nL k n ws (pc) L (.int x :: st) := by
  obtain ⟨p, l0, e, R, s, m, args, below, meth, c, A, Q⟩ := X
  obtain ⟨hx, hb, hml, hown, hts, hK, hA, hr, hlk, hnm, hrm, hl0⟩ := C
  intro H locs ls hP hD hS hL
  exact lv_if_ne hx hb hd ht (fun h => kt h H locs ls hP hD hS hL) (fun h => kf h H locs ls hP hD hS hL)
theorem sw_if_lt (C : Cx X l g y cc nL r rm) {x : Int32} {off : Int} (tgt : Nat) (hd : decode cc pc = .ok (.ifCond .lt off, 3)) (ht : (pc : Int) + off = (tgt : Int)) (kt : x < 0 → SW X g nL k n ws (tgt) L st) (kf : ¬ x < 0 → SW X g nL k n ws (pc + 3) L st) : SW X g nL k n ws (pc) L (.int x :: st) := by
  obtain ⟨p, l0, e, R, s, m, args, below, meth, c, A, Q⟩ := X
  obtain ⟨hx, hb, hml, hown, hts, hK, hA, hr, hlk, hnm, hrm, hl0⟩ := C
  intro H locs ls hP hD hS hL
  exact lv_if_lt hx hb hd ht (fun h => kt h H locs ls hP hD hS hL) (fun h => kf h H locs ls hP hD hS hL)
theorem sw_if_ge (C : Cx X l g y cc nL r rm) {x : Int32} {off : Int} (tgt : Nat) (hd : decode cc pc = .ok (.ifCond .ge off, 3)) (ht : (pc : Int) + off = (tgt : Int)) (kt : 0 ≤ x → SW X g nL k n ws (tgt) L st) (kf : ¬ 0 ≤ x → SW X g nL k n ws (pc + 3) L st) : SW X g nL k n ws (pc) L (.int x :: st) := by
  obtain ⟨p, l0, e, R, s, m, args, below, meth, c, A, Q⟩ := X
  obtain ⟨hx, hb, hml, hown, hts, hK, hA, hr, hlk, hnm, hrm, hl0⟩ := C
  intro H locs ls hP hD hS hL
  exact lv_if_ge hx hb hd ht (fun h => kt h H locs ls hP hD hS hL) (fun h => kf h H locs ls hP hD hS hL)
theorem sw_if_gt (C : Cx X l g y cc nL r rm) {x : Int32} {off : Int} (tgt : Nat) (hd : decode cc pc = .ok (.ifCond .gt off, 3)) (ht : (pc : Int) + off = (tgt : Int)) (kt : 0 < x → SW X g nL k n ws (tgt) L st) (kf : ¬ 0 < x → SW X g nL k n ws (pc + 3) L st) : SW X g nL k n ws (pc) L (.int x :: st) := by
  obtain ⟨p, l0, e, R, s, m, args, below, meth, c, A, Q⟩ := X
  obtain ⟨hx, hb, hml, hown, hts, hK, hA, hr, hlk, hnm, hrm, hl0⟩ := C
  intro H locs ls hP hD hS hL
  exact lv_if_gt hx hb hd ht (fun h => kt h H locs ls hP hD hS hL) (fun h => kf h H locs ls hP hD hS hL)
theorem sw_if_le (C : Cx X l g y cc nL r rm) {x : Int32} {off : Int} (tgt : Nat) (hd : decode cc pc = .ok (.ifCond .le off, 3)) (ht : (pc : Int) + off = (tgt : Int)) (kt : x ≤ 0 → SW X g nL k n ws (tgt) L st) (kf : ¬ x ≤ 0 → SW X g nL k n ws (pc + 3) L st) : SW X g nL k n ws (pc) L (.int x :: st) := by
  obtain ⟨p, l0, e, R, s, m, args, below, meth, c, A, Q⟩ := X
  obtain ⟨hx, hb, hml, hown, hts, hK, hA, hr, hlk, hnm, hrm, hl0⟩ := C
  intro H locs ls hP hD hS hL
  exact lv_if_le hx hb hd ht (fun h => kt h H locs ls hP hD hS hL) (fun h => kf h H locs ls hP hD hS hL)
theorem sw_icmp_eq (C : Cx X l g y cc nL r rm) {x z : Int32} {off : Int} (tgt : Nat) (hd : decode cc pc = .ok (.if_icmp .eq off, 3)) (ht : (pc : Int) + off = (tgt : Int)) (kt : x = z → SW X g nL k n ws (tgt) L st) (kf : ¬ x = z → SW X g nL k n ws (pc + 3) L st) : SW X g nL k n ws (pc) L (.int z :: .int x :: st) := by
  obtain ⟨p, l0, e, R, s, m, args, below, meth, c, A, Q⟩ := X
  obtain ⟨hx, hb, hml, hown, hts, hK, hA, hr, hlk, hnm, hrm, hl0⟩ := C
  intro H locs ls hP hD hS hL
  exact lv_icmp_eq hx hb hd ht (fun h => kt h H locs ls hP hD hS hL) (fun h => kf h H locs ls hP hD hS hL)
theorem sw_icmp_ne (C : Cx X l g y cc nL r rm) {x z : Int32} {off : Int} (tgt : Nat) (hd : decode cc pc = .ok (.if_icmp .ne off, 3)) (ht : (pc : Int) + off = (tgt : Int)) (kt : ¬ x = z → SW X g nL k n ws (tgt) L st) (kf : x = z → SW X g nL k n ws (pc + 3) L st) : SW X g nL k n ws (pc) L (.int z :: .int x :: st) := by
  obtain ⟨p, l0, e, R, s, m, args, below, meth, c, A, Q⟩ := X
  obtain ⟨hx, hb, hml, hown, hts, hK, hA, hr, hlk, hnm, hrm, hl0⟩ := C
  intro H locs ls hP hD hS hL
  exact lv_icmp_ne hx hb hd ht (fun h => kt h H locs ls hP hD hS hL) (fun h => kf h H locs ls hP hD hS hL)
theorem sw_icmp_lt (C : Cx X l g y cc nL r rm) {x z : Int32} {off : Int} (tgt : Nat) (hd : decode cc pc = .ok (.if_icmp .lt off, 3)) (ht : (pc : Int) + off = (tgt : Int)) (kt : x < z → SW X g nL k n ws (tgt) L st) (kf : ¬ x < z → SW X g nL k n ws (pc + 3) L st) : SW X g nL k n ws (pc) L (.int z :: .int x :: st) := by
  obtain ⟨p, l0, e, R, s, m, args, below, meth, c, A, Q⟩ := X
  obtain ⟨hx, hb, hml, hown, hts, hK, hA, hr, hlk, hnm, hrm, hl0⟩ := C
  intro H locs ls hP hD hS hL
  exact lv_icmp_lt hx hb hd ht (fun h => kt h H locs ls hP hD hS hL) (fun h => kf h H locs ls hP hD hS hL)
theorem sw_icmp_ge (C : Cx X l g y cc nL r rm) {x z : Int32} {off : Int} (tgt : Nat) (hd : decode cc pc = .ok (.if_icmp .ge off, 3)) (ht : (pc : Int) + off = (tgt : Int)) (kt : z ≤ x → SW X g nL k n ws (tgt) L st) (kf : ¬ z ≤ x → SW X g nL k n ws (pc + 3) L st) : SW X g nL k n ws (pc) L (.int z :: .int x :: st) := by
  obtain ⟨p, l0, e, R, s, m, args, below, meth, c, A, Q⟩ := X
  obtain ⟨hx, hb, hml, hown, hts, hK, hA, hr, hlk, hnm, hrm, hl0⟩ := C
  intro H locs ls hP hD hS hL
  exact lv_icmp_ge hx hb hd ht (fun h => kt h H locs ls hP hD hS hL) (fun h => kf h H locs ls hP hD hS hL)
theorem sw_icmp_gt (C : Cx X l g y cc nL r rm) {x z : Int32} {off : Int} (tgt : Nat) (hd : decode cc pc = .ok (.if_icmp .gt off, 3)) (ht : (pc : Int) + off = (tgt : Int)) (kt : z < x → SW X g nL k n ws (tgt) L st) (kf : ¬ z < x → SW X g nL k n ws (pc + 3) L st) : SW X g nL k n ws (pc) L (.int z :: .int x :: st) := by
  obtain ⟨p, l0, e, R, s, m, args, below, meth, c, A, Q⟩ := X
  obtain ⟨hx, hb, hml, hown, hts, hK, hA, hr, hlk, hnm, hrm, hl0⟩ := C
  intro H locs ls hP hD hS hL
  exact lv_icmp_gt hx hb hd ht (fun h => kt h H locs ls hP hD hS hL) (fun h => kf h H locs ls hP hD hS hL)
theorem sw_icmp_le (C : Cx X l g y cc nL r rm) {x z : Int32} {off : Int} (tgt : Nat) (hd : decode cc pc = .ok (.if_icmp .le off, 3)) (ht : (pc : Int) + off = (tgt : Int)) (kt : x ≤ z → SW X g nL k n ws (tgt) L st) (kf : ¬ x ≤ z → SW X g nL k n ws (pc + 3) L st) : SW X g nL k n ws (pc) L (.int z :: .int x :: st) := by
  obtain ⟨p, l0, e, R, s, m, args, below, meth, c, A, Q⟩ := X
  obtain ⟨hx, hb, hml, hown, hts, hK, hA, hr, hlk, hnm, hrm, hl0⟩ := C
  intro H locs ls hP hD hS hL
  exact lv_icmp_le hx hb hd ht (fun h => kt h H locs ls hP hD hS hL) (fun h => kf h H locs ls hP hD hS hL)
theorem sw_goto (C : Cx X l g y cc nL r rm) {off : Int} (tgt : Nat) (hd : decode cc pc = .ok (.goto off, 3)) (ht : (pc : Int) + off = (tgt : Int)) (kk : SW X g nL k n ws (tgt) L st) : SW X g nL k n ws (pc) L st := by
  obtain ⟨p, l0, e, R, s, m, args, below, meth, c, A, Q⟩ := X
  obtain ⟨hx, hb, hml, hown, hts, hK, hA, hr, hlk, hnm, hrm, hl0⟩ := C
  intro H locs ls hP hD hS hL
  exact lv_goto hx hb hd ht (kk H locs ls hP hD hS hL)
theorem sw_ifnonnull (C : Cx X l g y cc nL r rm) {x : Nat} {off : Int} (tgt : Nat) (hd : decode cc pc = .ok (.ifnonnull off, 3)) (ht : (pc : Int) + off = (tgt : Int)) (kk : SW X g nL k n ws (tgt) L st) : SW X g nL k n ws (pc) L (.ref x :: st) := by
  obtain ⟨p, l0, e, R, s, m, args, below, meth, c, A, Q⟩ := X
  obtain ⟨hx, hb, hml, hown, hts, hK, hA, hr, hlk, hnm, hrm, hl0⟩ := C
  intro H locs ls hP hD hS hL
  exact lv_ifnonnull hx hb hd ht (kk H locs ls hP hD hS hL)
theorem sw_ifnull (C : Cx X l g y cc nL r rm) {x : Nat} {off : Int} (hd : decode cc pc = .ok (.ifnull off, 3)) (kk : SW X g nL k n ws (pc + 3) L st) : SW X g nL k n ws (pc) L (.ref x :: st) := by
  obtain ⟨p, l0, e, R, s, m, args, below, meth, c, A, Q⟩ := X
  obtain ⟨hx, hb, hml, hown, hts, hK, hA, hr, hlk, hnm, hrm, hl0⟩ := C
  intro H locs ls hP hD hS hL
  exact lv_ifnull hx hb hd (kk H locs ls hP hD hS hL)
theorem sw_ifnullN (C : Cx X l g y cc nL r rm) {off : Int} (tgt : Nat) (hd : decode cc pc = .ok (.ifnull off, 3)) (ht : (pc : Int) + off = (tgt : Int)) (kk : SW X g nL k n ws (tgt) L st) : SW X g nL k n ws (pc) L (.null :: st) := by
  obtain ⟨p, l0, e, R, s, m, args, below, meth, c, A, Q⟩ := X
  obtain ⟨hx, hb, hml, hown, hts, hK, hA, hr, hlk, hnm, hrm, hl0⟩ := C
  intro H locs ls hP hD hS hL
  exact lv_ifnullN hx hb hd ht (kk H locs ls hP hD hS hL)
theorem sw_ifnonnullN (C : Cx X l g y cc nL r rm) {off : Int} (hd : decode cc pc = .ok (.ifnonnull off, 3)) (kk : SW X g nL k n ws (pc + 3) L st) : SW X g nL k n ws (pc) L (.null :: st) := by
  obtain ⟨p, l0, e, R, s, m, args, below, meth, c, A, Q⟩ := X
  obtain ⟨hx, hb, hml, hown, hts, hK, hA, hr, hlk, hnm, hrm, hl0⟩ := C
  intro H locs ls hP hD hS hL
  exact lv_ifnonnullN hx hb hd (kk H locs ls hP hD hS hL)
theorem sw_ws {ws' : va_W} (h : ws = ws') (kk : SW X g nL k n ws' pc L st) : SW X g nL k n ws pc L st := h ▸ kk
theorem sw_L {L' : List (Option Value)} (h : L = L') (kk : SW X g nL k n ws pc L' st) : SW X g nL k n ws pc L st := h ▸ kk
theorem sw_st {st' : List Value} (h : st = st') (kk : SW X g nL k n ws pc L st') : SW X g nL k n ws pc L st := h ▸ kk
theorem sw_topi {x z : Int32} (h : x = z) (kk : SW X g nL k n ws pc L (.int z :: st)) : SW X g nL k n ws pc L (.int x :: st) := h ▸ kk
theorem sw_topl {x z : Int64} (h : x = z) (kk : SW X g nL k n ws pc L (.long z :: st)) : SW X g nL k n ws pc L (.long x :: st) := h ▸ kk
theorem sw_gen {x : Int32} (kk : ∀ z : Int32, z = x → SW X g nL k n ws pc L (.int z :: st)) : SW X g nL k n ws pc L (.int x :: st) := kk x rfl
/-- fewer locals are known -/
theorem sw_drop (i : Nat) (kk : SW X g nL k n ws pc (L.set i none) st) : SW X g nL k n ws pc L st := by
  obtain ⟨p, l0, e, R, s, m, args, below, meth, c, A, Q⟩ := X
  intro H locs ls hP hD hS hL
  refine kk H locs ls hP hD hS ⟨hL.1, hL.2.1, fun q hq => hL.2.2 q ?_⟩
  obtain ⟨j, h1, h2⟩ := lvl_of _ 0 q hq
  rw [Nat.zero_add] at h1
  obtain ⟨a, u⟩ := q
  dsimp only at h1 h2
  subst h1
  by_cases hj : a = i
  · subst hj
    have hl : a < L.length := by
      have := (List.getElem?_eq_some_iff.mp h2).1
      simpa using this
    rw [List.getElem?_set_self hl] at h2
    cases h2
  · rw [List.getElem?_set_ne (Ne.symm hj)] at h2
    have := lvl_mem L 0 a u h2
    rwa [Nat.zero_add] at this
theorem pick_of {ws ws' : va_W} : ∀ (is : List Nat) (ws' : va_W), is.map (fun i => ws[i]?) = ws'.map some → is.filterMap (fun i => ws[i]?) = ws'
  | [], [], _ => rfl
  | [], q :: r, h => by simp at h
  | i :: is, [], h => by simp at h
  | i :: is, q :: r, h => by
    simp only [List.map_cons, List.cons.injEq] at h
    rw [List.filterMap_cons, h.1]
    simp only [pick_of (ws := ws) (ws' := ws') is r h.2]
/-- some cells, in another order -/
theorem sw_sub {ws' : va_W} (is : List Nat) (hs : is.map (fun i => ws[i]?) = ws'.map some) (hn : va_nd is = true) (kk : SW X g nL k n ws' pc L st) : SW X g nL k n ws pc L st := by
  obtain ⟨p, l0, e, R, s, m, args, below, meth, c, A, Q⟩ := X
  intro H locs ls hP hD hS hL
  exact kk H locs ls (hP.sub is (pick_of (ws' := ws') is ws' hs)) (hD.sub is hn hs) hS hL
theorem sw_widen {k' n' : Nat} (h1 : k ≤ k') (h2 : n ≤ n') (kk : SW X g nL k' n' ws pc L st) : SW X g nL k n ws pc L st := by
  obtain ⟨p, l0, e, R, s, m, args, below, meth, c, A, Q⟩ := X
  intro H locs ls hP hD hS hL
  exact W.widen h1 h2 (kk H locs ls hP hD hS hL)
/-- the cells lie apart -/
theorem sw_apart (kk : (∀ (i j : Nat) (p q : Nat × va_E), ws[i]? = some p → ws[j]? = some q → p.1 = q.1 → i = j) → SW X g nL k n ws pc L st) : SW X g nL k n ws pc L st := by
  obtain ⟨p, l0, e, R, s, m, args, below, meth, c, A, Q⟩ := X
  intro H locs ls hP hD hS hL
  exact kk hD.1 H locs ls hP hD hS hL
theorem sw_get (C : Cx X l g y cc nL r rm) {ref Cn : String} {T : u_T} {N ci index : Nat} (hin : ∀ w ∈ u_ws Cn T N, w ∈ TT) {a : Nat} (q0 : Nat) {fs : List Value} (he : ws[q0]? = some (a, .inr (ci, fs))) (hc : vwCl[ci]? = some (Cn, T, N)) (j : Nat) (hj : j < N) (hlink : Cond.fieldLink y.cls index ref (T j).2.1 (T j).2.2.1 ∈ TT) (hsame : ref = (T j).1) {v : Value} (hv : fs[j]? = some v) (hd : decode cc pc = .ok (.getfield index, 3)) (kk : SW X g nL k n ws (pc + 3) L (v :: st)) : SW X g nL k n ws (pc) L (.ref a :: st) := by
  obtain ⟨p, l0, e, R, s, m, args, below, meth, c, A, Q⟩ := X
  obtain ⟨hx, hb, hml, hown, hts, hK, hA, hr, hlk, hnm, hrm, hl0⟩ := C
  intro H locs ls hP hD hS hL
  exact va_get hx hb hts hin hown hK.1 hP q0 he hc j hj (hts _ hlink) (fun x h9 => by rw [hsame]; exact h9) hv hd (kk H locs ls hP hD hS hL)
theorem sw_getN (C : Cx X l g y cc nL r rm) {ref Cn : String} {T : u_T} {N ci index : Nat} (hin : ∀ w ∈ u_ws Cn T N, w ∈ TT) {a : Nat} (q0 : Nat) {fs : List Value} (he : ws[q0]? = some (a, .inr (ci, fs))) (hc : vwCl[ci]? = some (Cn, T, N)) (j : Nat) (hj : j < N) (host : String) (hlink : Cond.fieldLinkNest y.cls index ref (T j).2.1 (T j).2.2.1 host ∈ lw_tbl) (hsame : ref = (T j).1) {v : Value} (hv : fs[j]? = some v) (hd : decode cc pc = .ok (.getfield index, 3)) (kk : SW X g nL k n ws (pc + 3) L (v :: st)) : SW X g nL k n ws (pc) L (.ref a :: st) := by
  obtain ⟨p, l0, e, R, s, m, args, below, meth, c, A, Q⟩ := X
  obtain ⟨hx, hb, hml, hown, hts, hK, hA, hr, hlk, hnm, hrm, hl0⟩ := C
  intro H locs ls hP hD hS hL
  exact va_getN hx hb hts hin hown hK.1 hP q0 he hc j hj (va_Nw.use rfl (hK.2 _ hlink rfl)) (fun x h9 => by rw [hsame]; exact h9) hv hd (kk H locs ls hP hD hS hL)
theorem sw_put (C : Cx X l g y cc nL r rm) {ref Cn : String} {T : u_T} {N ci index : Nat} (hin : ∀ w ∈ u_ws Cn T N, w ∈ TT) {a : Nat} (q0 : Nat) {fs : List Value} (he : ws[q0]? = some (a, .inr (ci, fs))) (hc : vwCl[ci]? = some (Cn, T, N)) (j : Nat) (hj : j < N) (ty0 : Nat → FieldType) (hty : ∀ k, k < N → parseFieldDescriptor (T k).2.2.1 = some (ty0 k)) (hnm0 : ∀ a, a < N → ∀ b, b < N → a ≠ b → (T a).2.1 ≠ (T b).2.1) (hlink : Cond.fieldLink y.cls index ref (T j).2.1 (T j).2.2.1 ∈ TT) (hsame : ref = (T j).1) (hfin : (T j).2.2.2 = false) {ty : FieldType} {v : Value} (hpd : parseFieldDescriptor (T j).2.2.1 = some ty) (hnr : narrow ty v = v) (hfit : fits ty v = true) (hl : j < fs.length) (hd : decode cc pc = .ok (.putfield index, 3)) (kk : SW X g nL k n (ws.set q0 (a, .inr (ci, fs.set j v))) (pc + 3) L st) : SW X g nL k n ws (pc) L (v :: .ref a :: st) := by
  obtain ⟨p, l0, e, R, s, m, args, below, meth, c, A, Q⟩ := X
  obtain ⟨hx, hb, hml, hown, hts, hK, hA, hr, hlk, hnm, hrm, hl0⟩ := C
  intro H locs ls hP hD hS hL
  exact va_put hx hb hts hin ty0 hty hnm0 hown hK.1 hP hD hS q0 he hc j hj (hts _ hlink) (fun x h9 => by rw [hsame]; exact h9) hfin hpd hnr hfit hl hd (fun H1 locs1 hP1 hD1 hS1 => kk H1 locs1 ls hP1 hD1 hS1 hL)
theorem sw_putF (C : Cx X l g y cc nL r rm) {ref Cn : String} {T : u_T} {N ci index : Nat} (hin : ∀ w ∈ u_ws Cn T N, w ∈ TT) {a : Nat} (q0 : Nat) {fs : List Value} (he : ws[q0]? = some (a, .inr (ci, fs))) (hc : vwCl[ci]? = some (Cn, T, N)) (j : Nat) (hj : j < N) (ty0 : Nat → FieldType) (hty : ∀ k, k < N → parseFieldDescriptor (T k).2.2.1 = some (ty0 k)) (hnm0 : ∀ a, a < N → ∀ b, b < N → a ≠ b → (T a).2.1 ≠ (T b).2.1) (hlink : Cond.fieldLink y.cls index ref (T j).2.1 (T j).2.2.1 ∈ TT) (hsame : ref = (T j).1) (hfin : (T j).2.2.2 = true) (hini : y.name = "<init>") (hdecl : (T j).1 = y.cls) {ty : FieldType} {v : Value} (hpd : parseFieldDescriptor (T j).2.2.1 = some ty) (hnr : narrow ty v = v) (hfit : fits ty v = true) (hl : j < fs.length) (hd : decode cc pc = .ok (.putfield index, 3)) (kk : SW X g nL k n (ws.set q0 (a, .inr (ci, fs.set j v))) (pc + 3) L st) : SW X g nL k n ws (pc) L (v :: .ref a :: st) := by
  obtain ⟨p, l0, e, R, s, m, args, below, meth, c, A, Q⟩ := X
  obtain ⟨hx, hb, hml, hown, hts, hK, hA, hr, hlk, hnm, hrm, hl0⟩ := C
  intro H locs ls hP hD hS hL
  exact va_putF hx hb hts hin ty0 hty hnm0 hown hK.1 hP hD hS q0 he hc j hj (hts _ hlink) (fun x h9 => by rw [hsame]; exact h9) hfin (hnm.trans hini) hdecl hpd hnr hfit hl hd (fun H1 locs1 hP1 hD1 hS1 => kk H1 locs1 ls hP1 hD1 hS1 hL)
theorem sw_putN (C : Cx X l g y cc nL r rm) {ref Cn : String} {T : u_T} {N ci index : Nat} (hin : ∀ w ∈ u_ws Cn T N, w ∈ TT) {a : Nat} (q0 : Nat) {fs : List Value} (he : ws[q0]? = some (a, .inr (ci, fs))) (hc : vwCl[ci]? = some (Cn, T, N)) (j : Nat) (hj : j < N) (ty0 : Nat → FieldType) (hty : ∀ k, k < N → parseFieldDescriptor (T k).2.2.1 = some (ty0 k)) (hnm0 : ∀ a, a < N → ∀ b, b < N → a ≠ b → (T a).2.1 ≠ (T b).2.1) (host : String) (hlink : Cond.fieldLinkNest y.cls index ref (T j).2.1 (T j).2.2.1 host ∈ lw_tbl) (hsame : ref = (T j).1) (hfin : (T j).2.2.2 = false) {ty : FieldType} {v : Value} (hpd : parseFieldDescriptor (T j).2.2.1 = some ty) (hnr : narrow ty v = v) (hfit : fits ty v = true) (hl : j < fs.length) (hd : decode cc pc = .ok (.putfield index, 3)) (kk : SW X g nL k n (ws.set q0 (a, .inr (ci, fs.set j v))) (pc + 3) L st) : SW X g nL k n ws (pc) L (v :: .ref a :: st) := by
  obtain ⟨p, l0, e, R, s, m, args, below, meth, c, A, Q⟩ := X
  obtain ⟨hx, hb, hml, hown, hts, hK, hA, hr, hlk, hnm, hrm, hl0⟩ := C
  intro H locs ls hP hD hS hL
  exact va_putN hx hb hts hin ty0 hty hnm0 hown hK.1 hP hD hS q0 he hc j hj (va_Nw.use rfl (hK.2 _ hlink rfl)) (fun x h9 => by rw [hsame]; exact h9) hfin hpd hnr hfit hl hd (fun H1 locs1 hP1 hD1 hS1 => kk H1 locs1 ls hP1 hD1 hS1 hL)
theorem sw_iald (C : Cx X l g y cc nL r rm) {a N : Nat} {f : Nat → Int32} {i : Int32} (q0 : Nat) (he : ws[q0]? = some (a, .inl (g.2.1, N, .inl f))) (hi : vp_in i N) (hd : decode cc pc = .ok (.iaload, 1)) (kk : SW X g nL k n ws (pc + 1) L (.int (f i.toNatClampNeg) :: st)) : SW X g nL k n ws (pc) L (.int i :: .ref a :: st) := by
  obtain ⟨p, l0, e, R, s, m, args, below, meth, c, A, Q⟩ := X
  obtain ⟨hx, hb, hml, hown, hts, hK, hA, hr, hlk, hnm, hrm, hl0⟩ := C
  intro H locs ls hP hD hS hL
  exact va_iald hx hb hK.1 hP q0 0 he rfl hi hd (kk H locs ls hP hD hS hL)
theorem sw_zald (C : Cx X l g y cc nL r rm) {a N : Nat} {f : Nat → Int32} {i : Int32} (q0 : Nat) (he : ws[q0]? = some (a, .inl (g.2.2.2.1, N, .inl f))) (hi : vp_in i N) (hd : decode cc pc = .ok (.baload, 1)) (kk : SW X g nL k n ws (pc + 1) L (.int (f i.toNatClampNeg) :: st)) : SW X g nL k n ws (pc) L (.int i :: .ref a :: st) := by
  obtain ⟨p, l0, e, R, s, m, args, below, meth, c, A, Q⟩ := X
  obtain ⟨hx, hb, hml, hown, hts, hK, hA, hr, hlk, hnm, hrm, hl0⟩ := C
  intro H locs ls hP hD hS hL
  exact va_zald hx hb hK.1 hP q0 2 he rfl hi hd (kk H locs ls hP hD hS hL)
theorem sw_lald (C : Cx X l g y cc nL r rm) {a N : Nat} {f : Nat → Int64} {i : Int32} (q0 : Nat) (he : ws[q0]? = some (a, .inl (g.2.2.1, N, .inr (.inl f)))) (hi : vp_in i N) (hd : decode cc pc = .ok (.laload, 1)) (kk : SW X g nL k n ws (pc + 1) L (.long (f i.toNatClampNeg) :: st)) : SW X g nL k n ws (pc) L (.int i :: .ref a :: st) := by
  obtain ⟨p, l0, e, R, s, m, args, below, meth, c, A, Q⟩ := X
  obtain ⟨hx, hb, hml, hown, hts, hK, hA, hr, hlk, hnm, hrm, hl0⟩ := C
  intro H locs ls hP hD hS hL
  exact va_lald hx hb hK.1 hP q0 1 he rfl hi hd (kk H locs ls hP hD hS hL)
theorem sw_aald (C : Cx X l g y cc nL r rm) {a N : Nat} {f : Nat → Option Nat} {i : Int32} (q0 : Nat) (he : ws[q0]? = some (a, .inl (g.2.2.2.2, N, .inr (.inr (.inr (.inr f)))))) (hi : vp_in i N) (hd : decode cc pc = .ok (.aaload, 1)) (kk : SW X g nL k n ws (pc + 1) L (va_rf (f i.toNatClampNeg) :: st)) : SW X g nL k n ws (pc) L (.int i :: .ref a :: st) := by
  obtain ⟨p, l0, e, R, s, m, args, below, meth, c, A, Q⟩ := X
  obtain ⟨hx, hb, hml, hown, hts, hK, hA, hr, hlk, hnm, hrm, hl0⟩ := C
  intro H locs ls hP hD hS hL
  exact va_aldq hx hb hK.1 hP q0 3 he rfl hi hd (kk H locs ls hP hD hS hL)
theorem sw_iast (C : Cx X l g y cc nL r rm) {a N : Nat} {f : Nat → Int32} {i x : Int32} (q0 : Nat) (he : ws[q0]? = some (a, .inl (g.2.1, N, .inl f))) (hi : vp_in i N) (hd : decode cc pc = .ok (.iastore, 1)) (kk : SW X g nL k n (ws.set q0 (a, .inl (g.2.1, N, .inl (upd f i.toNatClampNeg x)))) (pc + 1) L st) : SW X g nL k n ws (pc) L (.int x :: .int i :: .ref a :: st) := by
  obtain ⟨p, l0, e, R, s, m, args, below, meth, c, A, Q⟩ := X
  obtain ⟨hx, hb, hml, hown, hts, hK, hA, hr, hlk, hnm, hrm, hl0⟩ := C
  intro H locs ls hP hD hS hL
  exact va_iast hx hb hK.1 hP hD hS q0 0 he rfl hi hd (fun H1 locs1 hP1 hD1 hS1 => kk H1 locs1 ls hP1 hD1 hS1 hL)
theorem sw_zast (C : Cx X l g y cc nL r rm) {a N : Nat} {f : Nat → Int32} {i x : Int32} (q0 : Nat) (he : ws[q0]? = some (a, .inl (g.2.2.2.1, N, .inl f))) (hi : vp_in i N) (hd : decode cc pc = .ok (.bastore, 1)) (kk : SW X g nL k n (ws.set q0 (a, .inl (g.2.2.2.1, N, .inl (upd f i.toNatClampNeg (vp_nar .boolean x))))) (pc + 1) L st) : SW X g nL k n ws (pc) L (.int x :: .int i :: .ref a :: st) := by
  obtain ⟨p, l0, e, R, s, m, args, below, meth, c, A, Q⟩ := X
  obtain ⟨hx, hb, hml, hown, hts, hK, hA, hr, hlk, hnm, hrm, hl0⟩ := C
  intro H locs ls hP hD hS hL
  exact va_zast hx hb hK.1 hP hD hS q0 2 he rfl hi hd (fun H1 locs1 hP1 hD1 hS1 => kk H1 locs1 ls hP1 hD1 hS1 hL)
theorem sw_last (C : Cx X l g y cc nL r rm) {a N : Nat} {f : Nat → Int64} {i : Int32} {x : Int64} (q0 : Nat) (he : ws[q0]? = some (a, .inl (g.2.2.1, N, .inr (.inl f)))) (hi : vp_in i N) (hd : decode cc pc = .ok (.lastore, 1)) (kk : SW X g nL k n (ws.set q0 (a, .inl (g.2.2.1, N, .inr (.inl (vp_updL f i.toNatClampNeg x))))) (pc + 1) L st) : SW X g nL k n ws (pc) L (.long x :: .int i :: .ref a :: st) := by
  obtain ⟨p, l0, e, R, s, m, args, below, meth, c, A, Q⟩ := X
  obtain ⟨hx, hb, hml, hown, hts, hK, hA, hr, hlk, hnm, hrm, hl0⟩ := C
  intro H locs ls hP hD hS hL
  exact va_last hx hb hK.1 hP hD hS q0 1 he rfl hi hd (fun H1 locs1 hP1 hD1 hS1 => kk H1 locs1 ls hP1 hD1 hS1 hL)
theorem sw_aast (C : Cx X l g y cc nL r rm) {a N v ci : Nat} {vs : List Value} {T : u_T} {n0 : Nat} {f : Nat → Option Nat} {i : Int32} (q0 q1 : Nat) (he : ws[q0]? = some (a, .inl (g.2.2.2.2, N, .inr (.inr (.inr (.inr f)))))) (hv : ws[q1]? = some (v, .inr (ci, vs))) (hc : vwCl[ci]? = some (nmShape, T, n0)) (hi : vp_in i N) (hd : decode cc pc = .ok (.aastore, 1)) (kk : SW X g nL k n (ws.set q0 (a, .inl (g.2.2.2.2, N, .inr (.inr (.inr (.inr (va_up f i.toNatClampNeg (some v)))))))) (pc + 1) L st) : SW X g nL k n ws (pc) L (.ref v :: .int i :: .ref a :: st) := by
  obtain ⟨p, l0, e, R, s, m, args, below, meth, c, A, Q⟩ := X
  obtain ⟨hx, hb, hml, hown, hts, hK, hA, hr, hlk, hnm, hrm, hl0⟩ := C
  intro H locs ls hP hD hS hL
  exact va_astq hx hb hK.1 hP hD hS q0 3 q1 ci he rfl hv hc hi hd (fun H1 locs1 hP1 hD1 hS1 => kk H1 locs1 ls hP1 hD1 hS1 hL)
theorem sw_alenI (C : Cx X l g y cc nL r rm) {a N : Nat} {f : Nat → Int32} (q0 : Nat) (he : ws[q0]? = some (a, .inl (g.2.1, N, .inl f))) (hd : decode cc pc = .ok (.arraylength, 1)) (kk : SW X g nL k n ws (pc + 1) L (.int (nI N) :: st)) : SW X g nL k n ws (pc) L (.ref a :: st) := by
  obtain ⟨p, l0, e, R, s, m, args, below, meth, c, A, Q⟩ := X
  obtain ⟨hx, hb, hml, hown, hts, hK, hA, hr, hlk, hnm, hrm, hl0⟩ := C
  intro H locs ls hP hD hS hL
  exact va_alen hx hb hK.1 hP q0 0 he rfl (v := nI N) rfl hd (kk H locs ls hP hD hS hL)
theorem sw_new (C : Cx X l g y cc nL r rm) {Cn : String} {T : u_T} {N ci index : Nat} (hin : ∀ w ∈ u_ws Cn T N, w ∈ TT) (ty : Nat → FieldType) (hty : ∀ k, k < N → parseFieldDescriptor (T k).2.2.1 = some (ty k)) (hcl : Cond.classLink y.cls index Cn ∈ TT) (hinst : Cond.instantiable Cn N ∈ TT) (hini : Cond.initialized Cn ∈ TT) (hc : vwCl[ci]? = some (Cn, T, N)) (fs : List Value) (hfs : ∀ j, j < N → defaultValue (ty j) = vp_V fs j) (hcells : k + 1 ≤ rm.cells) (hslots : n + N ≤ rm.slots) (hd : decode cc pc = .ok (.new index, 3)) (kk : ∀ q : Nat, SW X g nL (k + 1) (n + N) (ws ++ [(q, .inr (ci, fs))]) (pc + 3) L (.ref q :: st)) : SW X g nL k n ws (pc) L st := by
  obtain ⟨p, l0, e, R, s, m, args, below, meth, c, A, Q⟩ := X
  obtain ⟨hx, hb, hml, hown, hts, hK, hA, hr, hlk, hnm, hrm, hl0⟩ := C
  intro H locs ls hP hD hS hL
  subst hrm
  exact va_new hx hb hts hin ty hty hown (hts _ hcl) (hts _ hinst) (hts _ hini) hK.1 hP hD hS hA hc hfs hcells hslots hd (fun q H1 hP1 hD1 hS1 => kk q H1 locs ls hP1 hD1 hS1 hL)
theorem sw_newI (C : Cx X l g y cc nL r rm) {i : Int32} (N : Nat) (hw : Cond.arrayClass .int ∈ TT) (hn0 : ¬ i < 0) (hN : i.toNatClampNeg = N) (hby : N * componentBytes .int ≤ 536870912) (hcells : k + 1 ≤ rm.cells) (hslots : n + N ≤ rm.slots) (hd : decode cc pc = .ok (.newarray .int, 2)) (kk : ∀ q : Nat, SW X g nL (k + 1) (n + N) (ws ++ [(q, .inl (g.2.1, (N, .inl (fun _ => 0))))]) (pc + 2) L (.ref q :: st)) : SW X g nL k n ws (pc) L (.int i :: st) := by
  obtain ⟨p, l0, e, R, s, m, args, below, meth, c, A, Q⟩ := X
  obtain ⟨hx, hb, hml, hown, hts, hK, hA, hr, hlk, hnm, hrm, hl0⟩ := C
  intro H locs ls hP hD hS hL
  subst hrm
  refine va_newa (atype := .int) (ty := .int) (a0 := (N, .inl (fun _ => 0))) hx hb (hts _ hw) rfl hK.1 hP hD hS hA (fun cA => rfl) hn0 hN hby hcells hslots hd (fun q cA H1 hK1 hP1 hD1 hS1 => ?_)
  have e : cA = g.2.1 := by
    have h1 := (hK1.2 4 (cA, .int) rfl).2
    have h2 := (hK.1.2 0 (g.2.1, .int) rfl).2
    exact Option.some.inj (Eq.trans (Eq.symm h1) h2)
  subst e
  exact kk q H1 locs ls hP1 hD1 hS1 hL
theorem sw_newZ (C : Cx X l g y cc nL r rm) {i : Int32} (N : Nat) (hw : Cond.arrayClass .boolean ∈ TT) (hn0 : ¬ i < 0) (hN : i.toNatClampNeg = N) (hby : N * componentBytes .boolean ≤ 536870912) (hcells : k + 1 ≤ rm.cells) (hslots : n + N ≤ rm.slots) (hd : decode cc pc = .ok (.newarray .boolean, 2)) (kk : ∀ q : Nat, SW X g nL (k + 1) (n + N) (ws ++ [(q, .inl (g.2.2.2.1, (N, .inl (fun _ => 0))))]) (pc + 2) L (.ref q :: st)) : SW X g nL k n ws (pc) L (.int i :: st) := by
  obtain ⟨p, l0, e, R, s, m, args, below, meth, c, A, Q⟩ := X
  obtain ⟨hx, hb, hml, hown, hts, hK, hA, hr, hlk, hnm, hrm, hl0⟩ := C
  intro H locs ls hP hD hS hL
  subst hrm
  refine va_newa (atype := .boolean) (ty := .boolean) (a0 := (N, .inl (fun _ => 0))) hx hb (hts _ hw) rfl hK.1 hP hD hS hA (fun cA => rfl) hn0 hN hby hcells hslots hd (fun q cA H1 hK1 hP1 hD1 hS1 => ?_)
  have e : cA = g.2.2.2.1 := by
    have h1 := (hK1.2 4 (cA, .boolean) rfl).2
    have h2 := (hK.1.2 2 (g.2.2.2.1, .boolean) rfl).2
    exact Option.some.inj (Eq.trans (Eq.symm h1) h2)
  subst e
  exact kk q H1 locs ls hP1 hD1 hS1 hL
theorem sw_newJ (C : Cx X l g y cc nL r rm) {i : Int32} (N : Nat) (hw : Cond.arrayClass .long ∈ TT) (hn0 : ¬ i < 0) (hN : i.toNatClampNeg = N) (hby : N * componentBytes .long ≤ 536870912) (hcells : k + 1 ≤ rm.cells) (hslots : n + N ≤ rm.slots) (hd : decode cc pc = .ok (.newarray .long, 2)) (kk : ∀ q : Nat, SW X g nL (k + 1) (n + N) (ws ++ [(q, .inl (g.2.2.1, (N, .inr (.inl (fun _ => 0)))))]) (pc + 2) L (.ref q :: st)) : SW X g nL k n ws (pc) L (.int i :: st) := by
  obtain ⟨p, l0, e, R, s, m, args, below, meth, c, A, Q⟩ := X
  obtain ⟨hx, hb, hml, hown, hts, hK, hA, hr, hlk, hnm, hrm, hl0⟩ := C
  intro H locs ls hP hD hS hL
  subst hrm
  refine va_newa (atype := .long) (ty := .long) (a0 := (N, .inr (.inl (fun _ => 0)))) hx hb (hts _ hw) rfl hK.1 hP hD hS hA (fun cA => rfl) hn0 hN hby hcells hslots hd (fun q cA H1 hK1 hP1 hD1 hS1 => ?_)
  have e : cA = g.2.2.1 := by
    have h1 := (hK1.2 4 (cA, .long) rfl).2
    have h2 := (hK.1.2 1 (g.2.2.1, .long) rfl).2
    exact Option.some.inj (Eq.trans (Eq.symm h1) h2)
  subst e
  exact kk q H1 locs ls hP1 hD1 hS1 hL
theorem sw_newS (C : Cx X l g y cc nL r rm) {i : Int32} {index : Nat} (N : Nat) (hcl : Cond.classLink y.cls index nmShape ∈ TT) (hw : Cond.arrayOver (.object nmShape) ∈ lw_tbl) (hn0 : ¬ i < 0) (hN : i.toNatClampNeg = N) (hby : N * 4 ≤ 536870912) (hcells : k + 1 ≤ rm.cells) (hslots : n + N ≤ rm.slots) (hd : decode cc pc = .ok (.anewarray index, 3)) (kk : ∀ q : Nat, SW X g nL (k + 1) (n + N) (ws ++ [(q, .inl (g.2.2.2.2, N, .inr (.inr (.inr (.inr (fun _ => none))))))]) (pc + 3) L (.ref q :: st)) : SW X g nL k n ws (pc) L (.int i :: st) := by
  obtain ⟨p, l0, e, R, s, m, args, below, meth, c, A, Q⟩ := X
  obtain ⟨hx, hb, hml, hown, hts, hK, hA, hr, hlk, hnm, hrm, hl0⟩ := C
  intro H locs ls hP hD hS hL
  subst hrm
  refine va_newq hx hb hown (hts _ hcl) (hK.2 _ hw rfl) hK.1 hP hD hS hA hn0 hN hby hcells hslots hd (fun q cA H1 hK1 hP1 hD1 hS1 => ?_)
  have e : cA = g.2.2.2.2 := by
    obtain ⟨_, _, _, _, _, h1⟩ := (hK1.2 4 (cA, .object nmShape) rfl).2
    obtain ⟨_, _, _, _, _, h2⟩ := (hK.1.2 3 (g.2.2.2.2, .object nmShape) rfl).2
    exact Option.some.inj (Eq.trans (Eq.symm h1) h2)
  subst e
  exact kk q H1 locs ls hP1 hD1 hS1 hL
theorem sw_objInit (C : Cx X l g y cc nL r rm) {a idx : Nat} (hlink : Cond.methodLink y.cls idx objectInit ∈ TT) (hin : Cond.instanceMethod objectInit ∈ TT) (hcode : Cond.code objectInit ⟨#[0xb1]⟩ 1 none ∈ TT) (hf : 1 ≤ rm.frames) (hlo : (st.map fun v => v.category).sum + 12 ≤ rm.locals) (hd : decode cc pc = .ok (.invokespecial idx, 3)) (kk : SW X g nL k n ws (pc + 3) L st) : SW X g nL k n ws (pc) L (.ref a :: st) := by
  obtain ⟨p, l0, e, R, s, m, args, below, meth, c, A, Q⟩ := X
  obtain ⟨hx, hb, hml, hown, hts, hK, hA, hr, hlk, hnm, hrm, hl0⟩ := C
  intro H locs ls hP hD hS hL
  subst hrm
  exact W.objInit hx hb hown (hts _ hlink) (hts _ hin) (hts _ hcode) rfl (by rw [hml]; exact hL.1) rfl hd hf (by show 2 * 0 + _ + 12 ≤ _; omega) (kk H locs ls hP hD hS hL)
theorem sw_mmax (C : Cx X l g y cc nL r rm) {x z : Int32} {index : Nat} (hlink : Cond.methodLink y.cls index Lib.Math.max.name ∈ TT) (hstat : Cond.static Lib.Math.max.name ∈ TT) (hini : Cond.initialized "java/lang/Math" ∈ TT) (hcode : Cond.code Lib.Math.max.name Lib.Math.max.code 2 (some .int) ∈ TT) (hf : 1 ≤ rm.frames) (hlo : (st.map fun v => v.category).sum + 13 ≤ rm.locals) (hc : k ≤ rm.cells) (hs : n ≤ rm.slots) (hd : decode cc pc = .ok (.invokestatic index, 3)) (kk : SW X g nL k n ws (pc + 3) L (.int (if x < z then z else x) :: st)) : SW X g nL k n ws (pc) L (.int z :: .int x :: st) := by
  obtain ⟨p, l0, e, R, s, m, args, below, meth, c, A, Q⟩ := X
  obtain ⟨hx, hb, hml, hown, hts, hK, hA, hr, hlk, hnm, hrm, hl0⟩ := C
  intro H locs ls hP hD hS hL
  subst hrm
  exact va_mmax hx hb (by rw [hml]; exact hL.1.symm) hown (hts _ hlink) (hts _ hstat) (hts _ hini) (hts _ hcode) hf hlo hc hs hd (kk H locs ls hP hD hS hL)
theorem sw_mmin (C : Cx X l g y cc nL r rm) {x z : Int32} {index : Nat} (hlink : Cond.methodLink y.cls index Lib.Math.min.name ∈ TT) (hstat : Cond.static Lib.Math.min.name ∈ TT) (hini : Cond.initialized "java/lang/Math" ∈ TT) (hcode : Cond.code Lib.Math.min.name Lib.Math.min.code 2 (some .int) ∈ TT) (hf : 1 ≤ rm.frames) (hlo : (st.map fun v => v.category).sum + 13 ≤ rm.locals) (hc : k ≤ rm.cells) (hs : n ≤ rm.slots) (hd : decode cc pc = .ok (.invokestatic index, 3)) (kk : SW X g nL k n ws (pc + 3) L (.int (if z < x then z else x) :: st)) : SW X g nL k n ws (pc) L (.int z :: .int x :: st) := by
  obtain ⟨p, l0, e, R, s, m, args, below, meth, c, A, Q⟩ := X
  obtain ⟨hx, hb, hml, hown, hts, hK, hA, hr, hlk, hnm, hrm, hl0⟩ := C
  intro H locs ls hP hD hS hL
  subst hrm
  exact va_mmin hx hb (by rw [hml]; exact hL.1.symm) hown (hts _ hlink) (hts _ hstat) (hts _ hini) (hts _ hcode) hf hlo hc hs hd (kk H locs ls hP hD hS hL)
theorem sw_mabs (C : Cx X l g y cc nL r rm) {x : Int32} {index : Nat} (hlink : Cond.methodLink y.cls index Lib.Math.abs.name ∈ TT) (hstat : Cond.static Lib.Math.abs.name ∈ TT) (hini : Cond.initialized "java/lang/Math" ∈ TT) (hcode : Cond.code Lib.Math.abs.name Lib.Math.abs.code 1 (some .int) ∈ TT) (hf : 1 ≤ rm.frames) (hlo : (st.map fun v => v.category).sum + 13 ≤ rm.locals) (hc : k ≤ rm.cells) (hs : n ≤ rm.slots) (hd : decode cc pc = .ok (.invokestatic index, 3)) (kk : SW X g nL k n ws (pc + 3) L (.int (if 0 ≤ x then x else 0 - x) :: st)) : SW X g nL k n ws (pc) L (.int x :: st) := by
  obtain ⟨p, l0, e, R, s, m, args, below, meth, c, A, Q⟩ := X
  obtain ⟨hx, hb, hml, hown, hts, hK, hA, hr, hlk, hnm, hrm, hl0⟩ := C
  intro H locs ls hP hD hS hL
  subst hrm
  exact va_mabs hx hb (by rw [hml]; exact hL.1.symm) hown (hts _ hlink) (hts _ hstat) (hts _ hini) (hts _ hcode) hf hlo hc hs hd (kk H locs ls hP hD hS hL)
theorem sw_copyI (C : Cx X l g y cc nL r rm) {index a0 a1 n0 n1 : Nat} {f h : Nat → Int32} {sp dp len : Int32} (q0 q1 : Nat) (hlink : Cond.methodLink y.cls index arraycopyName ∈ TT) (hnat : Cond.native arraycopyName ∈ TT) (hstat : Cond.static arraycopyName ∈ TT) (hini : Cond.initialized "java/lang/System" ∈ TT) (he0 : ws[q0]? = some (a0, .inl (g.2.1, n0, .inl f))) (he1 : ws[q1]? = some (a1, .inl (g.2.1, n1, .inl h))) (h1 : ¬ sp < 0) (h2 : ¬ dp < 0) (h3 : ¬ len < 0) (h4 : sp.toNatClampNeg + len.toNatClampNeg ≤ n0) (h5 : dp.toNatClampNeg + len.toNatClampNeg ≤ n1) (hf : 1 ≤ rm.frames) (hlo : (st.map fun v => v.category).sum + (nativeFrameWords "java/lang/System" "arraycopy" 5 + 11) ≤ rm.locals) (hd : decode cc pc = .ok (.invokestatic index, 3)) (kk : SW X g nL k n (ws.set q1 (a1, .inl (g.2.1, n1, .inl (va_cpy f h sp.toNatClampNeg dp.toNatClampNeg len.toNatClampNeg)))) (pc + 3) L st) : SW X g nL k n ws (pc) L (.int len :: .int dp :: .ref a1 :: .int sp :: .ref a0 :: st) := by
  obtain ⟨p, l0, e, R, s, m, args, below, meth, c, A, Q⟩ := X
  obtain ⟨hx, hb, hml, hown, hts, hK, hA, hr, hlk, hnm, hrm, hl0⟩ := C
  intro H locs ls hP hD hS hL
  subst hrm
  exact va_copyi (ty := .int) hx hb (by rw [hml]; exact hL.1.symm) hown (hts _ hlink) (hts _ hnat) (hts _ hstat) (hts _ hini) hK.1 hP hD hS q0 q1 0 0 he0 he1 rfl rfl rfl h1 h2 h3 h4 h5 (fun i _ => rfl) hf hlo hd (fun H1 locs1 hP1 hD1 hS1 => kk H1 locs1 ls hP1 hD1 hS1 hL)
theorem sw_iret {post : Option Value → va_W → Prop} (C : Cx X l g y cc nL r rm) (E : Ce X g post rm) {v : Int32} (hrt : r = some .int) (hk : k ≤ rm.cells) (hn : n ≤ rm.slots) (hd : decode cc pc = .ok (.ireturn, 1)) (h : post (some (.int v)) ws) : SW X g nL k n ws pc L [.int v] := by
  obtain ⟨p, l0, e, R, s, m, args, below, meth, c, A, Q⟩ := X
  obtain ⟨hx, hb, hml, hown, hts, hK, hA, hr, hlk, hnm, hrm, hl0⟩ := C
  intro H locs ls hP hD hS hL
  have E : Q = MQ below (Qg g post A) args s rm.cells rm.slots A := E
  subst E
  refine W.widen hk hn ?_
  exact W.iret hx hb (hr.trans hrt) (fun t ht hW => ⟨⟨_, ws, rfl, h, by rw [ht]; exact hP, hD⟩, hS.F ht⟩) hS.2.2 hd hlk
theorem sw_zret {post : Option Value → va_W → Prop} (C : Cx X l g y cc nL r rm) (E : Ce X g post rm) {v : Int32} (hrt : r = some .boolean) (hz : narrow .boolean (.int v) = .int v) (hk : k ≤ rm.cells) (hn : n ≤ rm.slots) (hd : decode cc pc = .ok (.ireturn, 1)) (h : post (some (.int v)) ws) : SW X g nL k n ws pc L [.int v] := by
  obtain ⟨p, l0, e, R, s, m, args, below, meth, c, A, Q⟩ := X
  obtain ⟨hx, hb, hml, hown, hts, hK, hA, hr, hlk, hnm, hrm, hl0⟩ := C
  intro H locs ls hP hD hS hL
  have E : Q = MQ below (Qg g post A) args s rm.cells rm.slots A := E
  subst E
  refine W.widen hk hn ?_
  exact W.zret hx hb (hr.trans hrt) hz (fun t ht hW => ⟨⟨_, ws, rfl, h, by rw [ht]; exact hP, hD⟩, hS.F ht⟩) hS.2.2 hd hlk
theorem sw_lret {post : Option Value → va_W → Prop} (C : Cx X l g y cc nL r rm) (E : Ce X g post rm) {v : Int64} (hrt : r = some .long) (hk : k ≤ rm.cells) (hn : n ≤ rm.slots) (hd : decode cc pc = .ok (.lreturn, 1)) (h : post (some (.long v)) ws) : SW X g nL k n ws pc L [.long v] := by
  obtain ⟨p, l0, e, R, s, m, args, below, meth, c, A, Q⟩ := X
  obtain ⟨hx, hb, hml, hown, hts, hK, hA, hr, hlk, hnm, hrm, hl0⟩ := C
  intro H locs ls hP hD hS hL
  have E : Q = MQ below (Qg g post A) args s rm.cells rm.slots A := E
  subst E
  refine W.widen hk hn ?_
  exact W.lret hx hb (hr.trans hrt) (fun t ht hW => ⟨⟨_, ws, rfl, h, by rw [ht]; exact hP, hD⟩, hS.F ht⟩) hS.2.2 hd hlk
theorem sw_vret {post : Option Value → va_W → Prop} (C : Cx X l g y cc nL r rm) (E : Ce X g post rm) (hrt : r = none) (hk : k ≤ rm.cells) (hn : n ≤ rm.slots) (hd : decode cc pc = .ok (.return_, 1)) (h : post (none) ws) : SW X g nL k n ws pc L [] := by
  obtain ⟨p, l0, e, R, s, m, args, below, meth, c, A, Q⟩ := X
  obtain ⟨hx, hb, hml, hown, hts, hK, hA, hr, hlk, hnm, hrm, hl0⟩ := C
  intro H locs ls hP hD hS hL
  have E : Q = MQ below (Qg g post A) args s rm.cells rm.slots A := E
  subst E
  refine W.widen hk hn ?_
  exact W.vret hx hb (hr.trans hrt) (fun t ht hW => ⟨⟨_, ws, rfl, h, by rw [ht]; exact hP, hD⟩, hS.F ht⟩) hS.2.2 hd hlk
theorem sw_aret {post : Option Value → va_W → Prop} (C : Cx X l g y cc nL r rm) (E : Ce X g post rm) {v : Value} {cn : String} (hrt : r = some (.object cn)) (hv : v = .null ∨ ∃ a, v = .ref a) (hk : k ≤ rm.cells) (hn : n ≤ rm.slots) (hd : decode cc pc = .ok (.areturn, 1)) (h : post (some v) ws) : SW X g nL k n ws pc L [v] := by
  obtain ⟨p, l0, e, R, s, m, args, below, meth, c, A, Q⟩ := X
  obtain ⟨hx, hb, hml, hown, hts, hK, hA, hr, hlk, hnm, hrm, hl0⟩ := C
  intro H locs ls hP hD hS hL
  have E : Q = MQ below (Qg g post A) args s rm.cells rm.slots A := E
  subst E
  refine W.widen hk hn ?_
  exact W.aret hx hb (hr.trans hrt) (Or.inl ⟨_, rfl⟩) hv (fun t ht hW => ⟨⟨_, ws, rfl, h, by rw [ht]; exact hP, hD⟩, hS.F ht⟩) hS.2.2 hd hlk
end SWL
/-- the cells at the places is become w1 -/
def putb : va_W → List Nat → va_W → va_W
  | ws, i :: is, c :: w1 => putb (ws.set i c) is w1
  | ws, _, _ => ws
theorem putb_ne : ∀ (is : List Nat) (w1 ws : va_W) (k : Nat), k ∉ is → (putb ws is w1)[k]? = ws[k]?
  | [], _, ws, k, _ => by simp [putb]
  | i :: is, [], ws, k, _ => by simp [putb]
  | i :: is, c :: w1, ws, k, h => by
    have h1 : k ≠ i := fun e => h (e ▸ List.mem_cons_self)
    have h2 : k ∉ is := fun e => h (List.mem_cons_of_mem _ e)
    show (putb (ws.set i c) is w1)[k]? = ws[k]?
    rw [putb_ne is w1 _ k h2, List.getElem?_set_ne (Ne.symm h1)]
theorem putb_at : ∀ (is : List Nat) (w1 ws : va_W), va_nd is = true → is.length = w1.length → (∀ i ∈ is, i < ws.length) → ∀ (t k : Nat), is[t]? = some k → (putb ws is w1)[k]? = w1[t]?
  | [], w1, ws, _, _, _, t, k, h => by simp at h
  | i :: is, [], ws, _, hl, _, t, k, h => by simp at hl
  | i :: is, c :: w1, ws, hn, hl, hb, 0, k, h => by
    simp only [va_nd, Bool.and_eq_true, decide_eq_true_eq] at hn
    have e : i = k := by simpa using h
    subst e
    show (putb (ws.set i c) is w1)[i]? = _
    rw [putb_ne is w1 _ i hn.1, List.getElem?_set_self (hb i List.mem_cons_self)]
    rfl
  | i :: is, c :: w1, ws, hn, hl, hb, t + 1, k, h => by
    simp only [va_nd, Bool.and_eq_true, decide_eq_true_eq] at hn
    show (putb (ws.set i c) is w1)[k]? = _
    rw [putb_at is w1 (ws.set i c) hn.2 (by simpa using hl) (fun j hj => by rw [List.length_set]; exact hb j (List.mem_cons_of_mem _ hj)) t k (by simpa using h)]
    simp
theorem at_is {ws wc : va_W} {is : List Nat} (hC : is.map (fun i => ws[i]?) = wc.map some) {t k : Nat} (h : is[t]? = some k) : ∃ q, wc[t]? = some q ∧ ws[k]? = some q := by
  have h1 : (is.map (fun i => ws[i]?))[t]? = (wc.map some)[t]? := by rw [hC]
  rw [List.getElem?_map, List.getElem?_map, h] at h1
  cases hq : wc[t]? with
  | none => rw [hq] at h1; simp at h1
  | some q => rw [hq] at h1; exact ⟨q, rfl, by simpa using h1⟩
theorem is_at {ws wc : va_W} {is : List Nat} (hC : is.map (fun i => ws[i]?) = wc.map some) {t : Nat} {q : Nat × va_E} (h : wc[t]? = some q) : ∃ k, is[t]? = some k ∧ ws[k]? = some q := by
  have h1 : (is.map (fun i => ws[i]?))[t]? = (wc.map some)[t]? := by rw [hC]
  rw [List.getElem?_map, List.getElem?_map, h] at h1
  cases hq : is[t]? with
  | none => rw [hq] at h1; simp at h1
  | some k => rw [hq] at h1; exact ⟨k, rfl, by simpa using h1⟩
theorem not_A {D : va_G} {cl : List vw_C} {A : Nat → Prop} {ws wc : va_W} {H : Heap} {is : List Nat} (hP : va_P D cl ws H) (hD : va_D A ws) (hC : is.map (fun i => ws[i]?) = wc.map some) {k : Nat} {q : Nat × va_E} (hk : ws[k]? = some q) (hn : k ∉ is) : ¬ va_A wc H.size q.1 := by
  rintro (⟨t, e, h⟩ | h)
  · obtain ⟨i, h1, h2⟩ := is_at hC h
    have := hD.1 k i q (q.1, e) hk h2 rfl
    subst this
    exact hn (List.mem_of_getElem? h1)
  · have := (hP k q hk).lt
    omega
theorem put_world {D : va_G} {cl : List vw_C} {A : Nat → Prop} {ws wc w1 : va_W} {H H1 : Heap} {is : List Nat} (hP : va_P D cl ws H) (hD : va_D A ws) (hC : is.map (fun i => ws[i]?) = wc.map some) (hnd : va_nd is = true) (hadr : w1.map Prod.fst = wc.map Prod.fst) (hk : ∀ q : Nat, q < H.size → ¬ va_A wc H.size q → H1[q]? = H[q]?) (hP1 : va_P D cl w1 H1) : va_P D cl (putb ws is w1) H1 ∧ va_D A (putb ws is w1) := by
  have hlen : is.length = w1.length := by
    have e1 := congrArg List.length hC
    have e2 := congrArg List.length hadr
    simp only [List.length_map] at e1 e2
    omega
  have hb : ∀ i ∈ is, i < ws.length := by
    intro i hi
    obtain ⟨t, ht⟩ := List.getElem?_of_mem hi
    obtain ⟨q, -, h2⟩ := at_is hC ht
    exact (List.getElem?_eq_some_iff.mp h2).1
  have key : ∀ (k : Nat) (q : Nat × va_E), (putb ws is w1)[k]? = some q → ∃ q0, ws[k]? = some q0 ∧ q0.1 = q.1 := by
    intro k q hq
    by_cases hm : k ∈ is
    · obtain ⟨t, ht⟩ := List.getElem?_of_mem hm
      rw [putb_at is w1 ws hnd hlen hb t k ht] at hq
      obtain ⟨q0, h1, h2⟩ := at_is hC ht
      refine ⟨q0, h2, ?_⟩
      have e : (w1.map Prod.fst)[t]? = (wc.map Prod.fst)[t]? := by rw [hadr]
      rw [List.getElem?_map, List.getElem?_map, hq, h1] at e
      exact (Option.some.inj e).symm
    · rw [putb_ne is w1 ws k hm] at hq
      exact ⟨q, hq, rfl⟩
  refine ⟨fun k q hq => ?_, fun i j x y hi hj hxy => ?_, fun k q hq => ?_⟩
  · by_cases hm : k ∈ is
    · obtain ⟨t, ht⟩ := List.getElem?_of_mem hm
      rw [putb_at is w1 ws hnd hlen hb t k ht] at hq
      exact hP1 t q hq
    · rw [putb_ne is w1 ws k hm] at hq
      exact (hP k q hq).kept (hk q.1 (hP k q hq).lt (not_A hP hD hC hq hm))
  · obtain ⟨x0, h1, h2⟩ := key i x hi
    obtain ⟨y0, h3, h4⟩ := key j y hj
    exact hD.1 i j x0 y0 h1 h3 (h2.trans (hxy.trans h4.symm))
  · obtain ⟨q0, h1, h2⟩ := key k q hq
    rw [← h2]
    exact hD.2 k q0 h1
theorem ro_world {D : va_G} {cl : List vw_C} {A : Nat → Prop} {ws wc : va_W} {H H1 : Heap} {is : List Nat} (hP : va_P D cl ws H) (hD : va_D A ws) (hC : is.map (fun i => ws[i]?) = wc.map some) (hk : ∀ q : Nat, q < H.size → ¬ va_A wc H.size q → H1[q]? = H[q]?) (hP1 : va_P D cl wc H1) : va_P D cl ws H1 := by
  intro k q hq
  by_cases hm : k ∈ is
  · obtain ⟨t, ht⟩ := List.getElem?_of_mem hm
    obtain ⟨q0, h1, h2⟩ := at_is hC ht
    rw [hq] at h2
    cases h2
    exact hP1 t q h1
  · exact (hP k q hq).kept (hk q.1 (hP k q hq).lt (not_A hP hD hC hq hm))
section SWC
variable {p : Program} {l : Launch} {e : Env} {R : Room} {s : State} {m : MethodId} {args : Array Value} {below : List Frame} {meth : Method} {c : Code} {H : Heap} {locs : List Loc} {k n : Nat} {Q : State → Prop} {A : Nat → Prop} {g : Gl} {pc : Nat} {ls : Array Slot} {st st0 : List Value} {ws wc wr : va_W} {post : Option Value → va_W → Prop} {a : Array Value} {mc ms : Nat}
theorem run_go (hr : va_Run p l e R s m args below meth c H locs k n mc ms (F0 m pc ls st0) st (Qg g post (va_A wc H.size) a) (va_A wc H.size)) (hD : va_D A ws) (hS : va_S A s.heap H locs) (hA : ∀ q, s.heap.size ≤ q → A q) (is : List Nat) (hC : is.map (fun i => ws[i]?) = wc.map some)
    (kk : ∀ (v : Option Value) (w1 : va_W), post v w1 → ∀ (H1 : Heap) (locs1 : List Loc), va_P g.1 vwCl w1 H1 → va_D (va_A wc H.size) w1 → (∀ q : Nat, q < H.size → ¬ va_A wc H.size q → H1[q]? = H[q]?) → (∀ q, va_A wc H.size q → A q) → va_S A s.heap H1 locs1 → W p l e R s m args below meth c H1 locs1 (k + mc) (n + ms) Q (F0 m (pc + 3) ls (v.toList ++ st))) : W p l e R s m args below meth c H locs k n Q (F0 m pc ls st0) := by
  intro T hT X
  obtain ⟨v, st₀, t, T', L, h0, X', hL, e1, e2, ⟨⟨v', w1, hv, hp, hPw, hDw⟩, hz, hk⟩, hst⟩ := hr T hT X
  cases hv
  rw [h0] at hz hk
  have hFc := va_free (wc := wc) hD hS hA is hC
  have hP1 : va_P g.1 vwCl w1 T'.heap := by rw [e1]; exact hPw
  obtain ⟨t2, a1, b1⟩ := kk v w1 hp T'.heap (locs ++ L) hP1 hDw (fun q h1 h2 => by rw [e1]; exact hk q h1 h2) hFc
    ⟨Nat.le_trans hS.1 (by rw [e1]; exact hz), fun q h1 h2 => by rw [e1, hk q (Nat.lt_of_lt_of_le h1 hS.1) (fun z => h2 (hFc q z))]; exact hS.2.1 q h1 h2, fun q hq => by
      rcases List.mem_append.mp hq with h | h
      · exact hS.2.2 q h
      · exact hFc _ (hL q h)⟩ T' rfl X'
  exact ⟨t2, hst t2 a1, b1⟩
theorem pg_blind {av : List Value} {sz : Nat} {w : va_W} : FrameBlind (va_Pc av (Pg g sz w)) := fun a U f mk q => ⟨q.1, q.2.1, q.2.2.1, KK.calling q.2.2.2.1, q.2.2.2.2⟩
theorem pg_pre {av : List Value} {w : va_W} {U : State} (hU : U.heap = H) (hW : s.WarmedH U.vm) (hK : KK g s) (hP : va_P g.1 vwCl w H) (hD : va_D A w) : va_Pc av (Pg g H.size w) av.toArray U := ⟨rfl, by rw [hU], by rw [hU]; exact hP, KK.warm hW hK, hD.weaken (fun _ _ _ _ => trivial)⟩
end SWC
/-- what the tables say of a method that is called -/
def Sv (y : MethodName) (b : ByteArray) (n : Nat) (r : Option FieldType) (np : Nat) : Prop := Cond.code y b n r ∈ TT ∧ Cond.instanceMethod y ∈ TT ∧ Cond.selects y.cls y y ∈ TT ∧ Cond.initialized y.cls ∈ TT ∧ y.cls ≠ "java/lang/invoke/MethodHandle" ∧ y.cls ≠ "java/lang/invoke/VarHandle" ∧ (parseMethodDescriptor y.desc).map (fun d => d.parameters.length) = some np
def Si (y : MethodName) (b : ByteArray) (n : Nat) (np : Nat) : Prop := Cond.code y b n none ∈ TT ∧ Cond.instanceMethod y ∈ TT ∧ Cond.initialized y.cls ∈ TT ∧ y.cls ≠ "java/lang/invoke/MethodHandle" ∧ y.cls ≠ "java/lang/invoke/VarHandle" ∧ (parseMethodDescriptor y.desc).map (fun d => d.parameters.length) = some np ∧ y.name = "<init>"
def Ss (y : MethodName) (b : ByteArray) (n : Nat) (r : Option FieldType) (np : Nat) : Prop := Cond.code y b n r ∈ TT ∧ Cond.static y ∈ TT ∧ Cond.initialized y.cls ∈ TT ∧ y.cls ≠ "java/lang/invoke/MethodHandle" ∧ y.cls ≠ "java/lang/invoke/VarHandle" ∧ (parseMethodDescriptor y.desc).map (fun d => d.parameters.length) = some np
theorem TT_good {y : MethodName} {b : ByteArray} {n : Nat} {r : Option FieldType} (h : Cond.code y b n r ∈ TT) : GoodIn TT (wS y b n r) := by
  intro w hw
  rcases List.mem_cons.mp hw with rfl | hw
  · exact ⟨h, good_of_word (TT_gw h)⟩
  · exact ⟨hw, good_of_word (TT_gw hw)⟩
section SWC2
variable {X : Cz} {l : Launch} {g : Gl} {y : MethodName} {cc : ByteArray} {nL k n pc : Nat} {r : Option FieldType} {rm : Room} {ws : va_W} {L : List (Option Value)} {st : List Value}
variable {y' : MethodName} {b' : ByteArray} {n' np : Nat} {r' : Option FieldType} {rm' : Room} {wc wr : va_W} {post : Option Value → va_W → Prop} {As : List Value} {a idx : Nat}
theorem sw_callVP (C : Cx X l g y cc nL r rm)  (hM : Ct l g y' b' n' r' rm' (.ref a :: As) wc post) (S : Sv y' b' n' r' np) (hl : Cond.methodLink y.cls idx y' ∈ TT) {ci : Nat} {Cq : vw_C} {fs : List Value} (hrecv : wc[0]? = some (a, .inr (ci, fs))) (hcl : vwCl[ci]? = some Cq) (hcn : Cq.1 = y'.cls) (is : List Nat) (hC : is.map (fun i => ws[i]?) = wc.map some) (hnd : va_nd is = true) (hnp : As.length = np) {st0 : List Value} (hst : st0 = As.reverse ++ .ref a :: st) (hW : (st.map fun v => v.category).sum ≤ 8) (hf : rm'.frames + 1 ≤ rm.frames) (hlo : 8 + (n' + 11) + rm'.locals ≤ rm.locals) (hc : k + rm'.cells ≤ rm.cells) (hs : n + rm'.slots ≤ rm.slots) (hd : decode cc pc = .ok (.invokevirtual idx, 3)) (kk : ∀ (v : Option Value) (w1 : va_W), post v w1 → w1.map Prod.fst = wc.map Prod.fst ∧ SW X g nL (k + rm'.cells) (n + rm'.slots) (putb ws is w1) (pc + 3) L (v.toList ++ st)) : SW X g nL k n ws pc L st0 := by
  obtain ⟨p, l0, e, R, s, m, args, below, meth, c, A, Q⟩ := X
  obtain ⟨hx, hb, hml, hown, hts, hK, hA, hr, hlk, hnm, hrm, hl0⟩ := C
  intro H locs ls hP hD hS hL
  subst hrm
  subst hl0
  subst hst
  have hPc := hP.sub (ws' := wc) is (pick_of (ws' := wc) is wc hC)
  have hDc := hD.sub (ws' := wc) is hnd hC
  exact run_go (post := post) (wc := wc) (va_runV (As := As) (rest := st) ⟨hx, hb, hml, hown, hts⟩ (hM H.size) (⟨callB_of np hts (TT_good S.1) rfl rfl rfl (hts _ S.2.2.2.1) (hts _ hl) ⟨S.2.2.2.2.1, S.2.2.2.2.2.1, S.2.2.2.2.2.2⟩ ⟨hf, hlo⟩, hts _ S.2.1, hts _ S.2.2.1⟩) ⟨pg_blind, (by have h0 := va_recv hK.1 hPc hcl hrecv; rw [hcn] at h0; exact h0), fun U hU hW1 => pg_pre hU hW1 hK hPc hDc⟩ rfl hnp hL.1 rfl (lv_room hW) hd ⟨hc, hs⟩) hD hS hA is hC (fun v w1 hp H1 locs1 hP1 hD1 hk1 hF1 hS1 => by
    obtain ⟨hadr, kk⟩ := kk v w1 hp
    obtain ⟨hPj, hDj⟩ := put_world hP hD hC hnd hadr hk1 hP1
    exact kk H1 locs1 ls hPj hDj hS1 hL)
theorem sw_callVR (C : Cx X l g y cc nL r rm)  (hM : Ct l g y' b' n' r' rm' (.ref a :: As) wc post) (S : Sv y' b' n' r' np) (hl : Cond.methodLink y.cls idx y' ∈ TT) {ci : Nat} {Cq : vw_C} {fs : List Value} (hrecv : wc[0]? = some (a, .inr (ci, fs))) (hcl : vwCl[ci]? = some Cq) (hcn : Cq.1 = y'.cls) (is : List Nat) (hC : is.map (fun i => ws[i]?) = wc.map some) (hnd : va_nd is = true) (hnp : As.length = np) {st0 : List Value} (hst : st0 = As.reverse ++ .ref a :: st) (hW : (st.map fun v => v.category).sum ≤ 8) (hf : rm'.frames + 1 ≤ rm.frames) (hlo : 8 + (n' + 11) + rm'.locals ≤ rm.locals) (hc : k + rm'.cells ≤ rm.cells) (hs : n + rm'.slots ≤ rm.slots) (hd : decode cc pc = .ok (.invokevirtual idx, 3)) (kk : ∀ (v : Option Value) (w1 : va_W), post v w1 → w1 = wc ∧ SW X g nL (k + rm'.cells) (n + rm'.slots) ws (pc + 3) L (v.toList ++ st)) : SW X g nL k n ws pc L st0 := by
  obtain ⟨p, l0, e, R, s, m, args, below, meth, c, A, Q⟩ := X
  obtain ⟨hx, hb, hml, hown, hts, hK, hA, hr, hlk, hnm, hrm, hl0⟩ := C
  intro H locs ls hP hD hS hL
  subst hrm
  subst hl0
  subst hst
  have hPc := hP.sub (ws' := wc) is (pick_of (ws' := wc) is wc hC)
  have hDc := hD.sub (ws' := wc) is hnd hC
  exact run_go (post := post) (wc := wc) (va_runV (As := As) (rest := st) ⟨hx, hb, hml, hown, hts⟩ (hM H.size) (⟨callB_of np hts (TT_good S.1) rfl rfl rfl (hts _ S.2.2.2.1) (hts _ hl) ⟨S.2.2.2.2.1, S.2.2.2.2.2.1, S.2.2.2.2.2.2⟩ ⟨hf, hlo⟩, hts _ S.2.1, hts _ S.2.2.1⟩) ⟨pg_blind, (by have h0 := va_recv hK.1 hPc hcl hrecv; rw [hcn] at h0; exact h0), fun U hU hW1 => pg_pre hU hW1 hK hPc hDc⟩ rfl hnp hL.1 rfl (lv_room hW) hd ⟨hc, hs⟩) hD hS hA is hC (fun v w1 hp H1 locs1 hP1 hD1 hk1 hF1 hS1 => by
    obtain ⟨hw1, k2⟩ := kk v w1 hp
    subst hw1
    exact k2 H1 locs1 ls (ro_world hP hD hC hk1 hP1) hD hS1 hL)
theorem sw_callVNP (C : Cx X l g y cc nL r rm)  (hM : Ct l g y' b' n' r' rm' (.ref a :: As) wc post) (S : Sv y' b' n' r' np) (host : String) (hl : Cond.methodLinkNest y.cls idx y' host ∈ lw_tbl) {ci : Nat} {Cq : vw_C} {fs : List Value} (hrecv : wc[0]? = some (a, .inr (ci, fs))) (hcl : vwCl[ci]? = some Cq) (hcn : Cq.1 = y'.cls) (is : List Nat) (hC : is.map (fun i => ws[i]?) = wc.map some) (hnd : va_nd is = true) (hnp : As.length = np) {st0 : List Value} (hst : st0 = As.reverse ++ .ref a :: st) (hW : (st.map fun v => v.category).sum ≤ 8) (hf : rm'.frames + 1 ≤ rm.frames) (hlo : 8 + (n' + 11) + rm'.locals ≤ rm.locals) (hc : k + rm'.cells ≤ rm.cells) (hs : n + rm'.slots ≤ rm.slots) (hd : decode cc pc = .ok (.invokevirtual idx, 3)) (kk : ∀ (v : Option Value) (w1 : va_W), post v w1 → w1.map Prod.fst = wc.map Prod.fst ∧ SW X g nL (k + rm'.cells) (n + rm'.slots) (putb ws is w1) (pc + 3) L (v.toList ++ st)) : SW X g nL k n ws pc L st0 := by
  obtain ⟨p, l0, e, R, s, m, args, below, meth, c, A, Q⟩ := X
  obtain ⟨hx, hb, hml, hown, hts, hK, hA, hr, hlk, hnm, hrm, hl0⟩ := C
  intro H locs ls hP hD hS hL
  subst hrm
  subst hl0
  subst hst
  have hPc := hP.sub (ws' := wc) is (pick_of (ws' := wc) is wc hC)
  have hDc := hD.sub (ws' := wc) is hnd hC
  exact run_go (post := post) (wc := wc) (va_runVN (As := As) (rest := st) ⟨hx, hb, hml, hown, hts⟩ (hM H.size) (⟨va_cnB np hts (TT_good S.1) rfl rfl rfl (hK.2 _ hl rfl) (hts _ S.2.2.2.1) ⟨S.2.2.2.2.1, S.2.2.2.2.2.1, S.2.2.2.2.2.2⟩ ⟨hf, hlo⟩, hts _ S.2.1, hts _ S.2.2.1⟩) ⟨pg_blind, (by have h0 := va_recv hK.1 hPc hcl hrecv; rw [hcn] at h0; exact h0), fun U hU hW1 => pg_pre hU hW1 hK hPc hDc⟩ rfl hnp hL.1 rfl (lv_room hW) hd ⟨hc, hs⟩) hD hS hA is hC (fun v w1 hp H1 locs1 hP1 hD1 hk1 hF1 hS1 => by
    obtain ⟨hadr, kk⟩ := kk v w1 hp
    obtain ⟨hPj, hDj⟩ := put_world hP hD hC hnd hadr hk1 hP1
    exact kk H1 locs1 ls hPj hDj hS1 hL)
theorem sw_callVNR (C : Cx X l g y cc nL r rm)  (hM : Ct l g y' b' n' r' rm' (.ref a :: As) wc post) (S : Sv y' b' n' r' np) (host : String) (hl : Cond.methodLinkNest y.cls idx y' host ∈ lw_tbl) {ci : Nat} {Cq : vw_C} {fs : List Value} (hrecv : wc[0]? = some (a, .inr (ci, fs))) (hcl : vwCl[ci]? = some Cq) (hcn : Cq.1 = y'.cls) (is : List Nat) (hC : is.map (fun i => ws[i]?) = wc.map some) (hnd : va_nd is = true) (hnp : As.length = np) {st0 : List Value} (hst : st0 = As.reverse ++ .ref a :: st) (hW : (st.map fun v => v.category).sum ≤ 8) (hf : rm'.frames + 1 ≤ rm.frames) (hlo : 8 + (n' + 11) + rm'.locals ≤ rm.locals) (hc : k + rm'.cells ≤ rm.cells) (hs : n + rm'.slots ≤ rm.slots) (hd : decode cc pc = .ok (.invokevirtual idx, 3)) (kk : ∀ (v : Option Value) (w1 : va_W), post v w1 → w1 = wc ∧ SW X g nL (k + rm'.cells) (n + rm'.slots) ws (pc + 3) L (v.toList ++ st)) : SW X g nL k n ws pc L st0 := by
  obtain ⟨p, l0, e, R, s, m, args, below, meth, c, A, Q⟩ := X
  obtain ⟨hx, hb, hml, hown, hts, hK, hA, hr, hlk, hnm, hrm, hl0⟩ := C
  intro H locs ls hP hD hS hL
  subst hrm
  subst hl0
  subst hst
  have hPc := hP.sub (ws' := wc) is (pick_of (ws' := wc) is wc hC)
  have hDc := hD.sub (ws' := wc) is hnd hC
  exact run_go (post := post) (wc := wc) (va_runVN (As := As) (rest := st) ⟨hx, hb, hml, hown, hts⟩ (hM H.size) (⟨va_cnB np hts (TT_good S.1) rfl rfl rfl (hK.2 _ hl rfl) (hts _ S.2.2.2.1) ⟨S.2.2.2.2.1, S.2.2.2.2.2.1, S.2.2.2.2.2.2⟩ ⟨hf, hlo⟩, hts _ S.2.1, hts _ S.2.2.1⟩) ⟨pg_blind, (by have h0 := va_recv hK.1 hPc hcl hrecv; rw [hcn] at h0; exact h0), fun U hU hW1 => pg_pre hU hW1 hK hPc hDc⟩ rfl hnp hL.1 rfl (lv_room hW) hd ⟨hc, hs⟩) hD hS hA is hC (fun v w1 hp H1 locs1 hP1 hD1 hk1 hF1 hS1 => by
    obtain ⟨hw1, k2⟩ := kk v w1 hp
    subst hw1
    exact k2 H1 locs1 ls (ro_world hP hD hC hk1 hP1) hD hS1 hL)
theorem sw_callSP (C : Cx X l g y cc nL r rm)  (hM : Ct l g y' b' n' r' rm' As wc post) (S : Ss y' b' n' r' np) (hl : Cond.methodLink y.cls idx y' ∈ TT) (is : List Nat) (hC : is.map (fun i => ws[i]?) = wc.map some) (hnd : va_nd is = true) (hnp : As.length = np) {st0 : List Value} (hst : st0 = As.reverse ++ st) (hW : (st.map fun v => v.category).sum ≤ 8) (hf : rm'.frames + 1 ≤ rm.frames) (hlo : 8 + (n' + 11) + rm'.locals ≤ rm.locals) (hc : k + rm'.cells ≤ rm.cells) (hs : n + rm'.slots ≤ rm.slots) (hd : decode cc pc = .ok (.invokestatic idx, 3)) (kk : ∀ (v : Option Value) (w1 : va_W), post v w1 → w1.map Prod.fst = wc.map Prod.fst ∧ SW X g nL (k + rm'.cells) (n + rm'.slots) (putb ws is w1) (pc + 3) L (v.toList ++ st)) : SW X g nL k n ws pc L st0 := by
  obtain ⟨p, l0, e, R, s, m, args, below, meth, c, A, Q⟩ := X
  obtain ⟨hx, hb, hml, hown, hts, hK, hA, hr, hlk, hnm, hrm, hl0⟩ := C
  intro H locs ls hP hD hS hL
  subst hrm
  subst hl0
  subst hst
  have hPc := hP.sub (ws' := wc) is (pick_of (ws' := wc) is wc hC)
  have hDc := hD.sub (ws' := wc) is hnd hC
  exact run_go (post := post) (wc := wc) (va_runS (As := As) (rest := st) ⟨hx, hb, hml, hown, hts⟩ (hM H.size) (⟨callB_of np hts (TT_good S.1) rfl rfl rfl (hts _ S.2.2.1) (hts _ hl) ⟨S.2.2.2.1, S.2.2.2.2.1, S.2.2.2.2.2⟩ ⟨hf, hlo⟩, hts _ S.2.1⟩) ⟨pg_blind, fun U hU hW1 => pg_pre hU hW1 hK hPc hDc⟩ rfl hnp hL.1 rfl (lv_room hW) hd ⟨hc, hs⟩) hD hS hA is hC (fun v w1 hp H1 locs1 hP1 hD1 hk1 hF1 hS1 => by
    obtain ⟨hadr, kk⟩ := kk v w1 hp
    obtain ⟨hPj, hDj⟩ := put_world hP hD hC hnd hadr hk1 hP1
    exact kk H1 locs1 ls hPj hDj hS1 hL)
theorem sw_callSR (C : Cx X l g y cc nL r rm)  (hM : Ct l g y' b' n' r' rm' As wc post) (S : Ss y' b' n' r' np) (hl : Cond.methodLink y.cls idx y' ∈ TT) (is : List Nat) (hC : is.map (fun i => ws[i]?) = wc.map some) (hnd : va_nd is = true) (hnp : As.length = np) {st0 : List Value} (hst : st0 = As.reverse ++ st) (hW : (st.map fun v => v.category).sum ≤ 8) (hf : rm'.frames + 1 ≤ rm.frames) (hlo : 8 + (n' + 11) + rm'.locals ≤ rm.locals) (hc : k + rm'.cells ≤ rm.cells) (hs : n + rm'.slots ≤ rm.slots) (hd : decode cc pc = .ok (.invokestatic idx, 3)) (kk : ∀ (v : Option Value) (w1 : va_W), post v w1 → w1 = wc ∧ SW X g nL (k + rm'.cells) (n + rm'.slots) ws (pc + 3) L (v.toList ++ st)) : SW X g nL k n ws pc L st0 := by
  obtain ⟨p, l0, e, R, s, m, args, below, meth, c, A, Q⟩ := X
  obtain ⟨hx, hb, hml, hown, hts, hK, hA, hr, hlk, hnm, hrm, hl0⟩ := C
  intro H locs ls hP hD hS hL
  subst hrm
  subst hl0
  subst hst
  have hPc := hP.sub (ws' := wc) is (pick_of (ws' := wc) is wc hC)
  have hDc := hD.sub (ws' := wc) is hnd hC
  exact run_go (post := post) (wc := wc) (va_runS (As := As) (rest := st) ⟨hx, hb, hml, hown, hts⟩ (hM H.size) (⟨callB_of np hts (TT_good S.1) rfl rfl rfl (hts _ S.2.2.1) (hts _ hl) ⟨S.2.2.2.1, S.2.2.2.2.1, S.2.2.2.2.2⟩ ⟨hf, hlo⟩, hts _ S.2.1⟩) ⟨pg_blind, fun U hU hW1 => pg_pre hU hW1 hK hPc hDc⟩ rfl hnp hL.1 rfl (lv_room hW) hd ⟨hc, hs⟩) hD hS hA is hC (fun v w1 hp H1 locs1 hP1 hD1 hk1 hF1 hS1 => by
    obtain ⟨hw1, k2⟩ := kk v w1 hp
    subst hw1
    exact k2 H1 locs1 ls (ro_world hP hD hC hk1 hP1) hD hS1 hL)
theorem sw_callSNP (C : Cx X l g y cc nL r rm)  (hM : Ct l g y' b' n' r' rm' As wc post) (S : Ss y' b' n' r' np) (host : String) (hl : Cond.methodLinkNest y.cls idx y' host ∈ lw_tbl) (is : List Nat) (hC : is.map (fun i => ws[i]?) = wc.map some) (hnd : va_nd is = true) (hnp : As.length = np) {st0 : List Value} (hst : st0 = As.reverse ++ st) (hW : (st.map fun v => v.category).sum ≤ 8) (hf : rm'.frames + 1 ≤ rm.frames) (hlo : 8 + (n' + 11) + rm'.locals ≤ rm.locals) (hc : k + rm'.cells ≤ rm.cells) (hs : n + rm'.slots ≤ rm.slots) (hd : decode cc pc = .ok (.invokestatic idx, 3)) (kk : ∀ (v : Option Value) (w1 : va_W), post v w1 → w1.map Prod.fst = wc.map Prod.fst ∧ SW X g nL (k + rm'.cells) (n + rm'.slots) (putb ws is w1) (pc + 3) L (v.toList ++ st)) : SW X g nL k n ws pc L st0 := by
  obtain ⟨p, l0, e, R, s, m, args, below, meth, c, A, Q⟩ := X
  obtain ⟨hx, hb, hml, hown, hts, hK, hA, hr, hlk, hnm, hrm, hl0⟩ := C
  intro H locs ls hP hD hS hL
  subst hrm
  subst hl0
  subst hst
  have hPc := hP.sub (ws' := wc) is (pick_of (ws' := wc) is wc hC)
  have hDc := hD.sub (ws' := wc) is hnd hC
  exact run_go (post := post) (wc := wc) (va_runSN (As := As) (rest := st) ⟨hx, hb, hml, hown, hts⟩ (hM H.size) (⟨va_cnB np hts (TT_good S.1) rfl rfl rfl (hK.2 _ hl rfl) (hts _ S.2.2.1) ⟨S.2.2.2.1, S.2.2.2.2.1, S.2.2.2.2.2⟩ ⟨hf, hlo⟩, hts _ S.2.1, trivial⟩) ⟨pg_blind, fun U hU hW1 => pg_pre hU hW1 hK hPc hDc⟩ rfl hnp hL.1 rfl (lv_room hW) hd ⟨hc, hs⟩) hD hS hA is hC (fun v w1 hp H1 locs1 hP1 hD1 hk1 hF1 hS1 => by
    obtain ⟨hadr, kk⟩ := kk v w1 hp
    obtain ⟨hPj, hDj⟩ := put_world hP hD hC hnd hadr hk1 hP1
    exact kk H1 locs1 ls hPj hDj hS1 hL)
theorem sw_callSNR (C : Cx X l g y cc nL r rm)  (hM : Ct l g y' b' n' r' rm' As wc post) (S : Ss y' b' n' r' np) (host : String) (hl : Cond.methodLinkNest y.cls idx y' host ∈ lw_tbl) (is : List Nat) (hC : is.map (fun i => ws[i]?) = wc.map some) (hnd : va_nd is = true) (hnp : As.length = np) {st0 : List Value} (hst : st0 = As.reverse ++ st) (hW : (st.map fun v => v.category).sum ≤ 8) (hf : rm'.frames + 1 ≤ rm.frames) (hlo : 8 + (n' + 11) + rm'.locals ≤ rm.locals) (hc : k + rm'.cells ≤ rm.cells) (hs : n + rm'.slots ≤ rm.slots) (hd : decode cc pc = .ok (.invokestatic idx, 3)) (kk : ∀ (v : Option Value) (w1 : va_W), post v w1 → w1 = wc ∧ SW X g nL (k + rm'.cells) (n + rm'.slots) ws (pc + 3) L (v.toList ++ st)) : SW X g nL k n ws pc L st0 := by
  obtain ⟨p, l0, e, R, s, m, args, below, meth, c, A, Q⟩ := X
  obtain ⟨hx, hb, hml, hown, hts, hK, hA, hr, hlk, hnm, hrm, hl0⟩ := C
  intro H locs ls hP hD hS hL
  subst hrm
  subst hl0
  subst hst
  have hPc := hP.sub (ws' := wc) is (pick_of (ws' := wc) is wc hC)
  have hDc := hD.sub (ws' := wc) is hnd hC
  exact run_go (post := post) (wc := wc) (va_runSN (As := As) (rest := st) ⟨hx, hb, hml, hown, hts⟩ (hM H.size) (⟨va_cnB np hts (TT_good S.1) rfl rfl rfl (hK.2 _ hl rfl) (hts _ S.2.2.1) ⟨S.2.2.2.1, S.2.2.2.2.1, S.2.2.2.2.2⟩ ⟨hf, hlo⟩, hts _ S.2.1, trivial⟩) ⟨pg_blind, fun U hU hW1 => pg_pre hU hW1 hK hPc hDc⟩ rfl hnp hL.1 rfl (lv_room hW) hd ⟨hc, hs⟩) hD hS hA is hC (fun v w1 hp H1 locs1 hP1 hD1 hk1 hF1 hS1 => by
    obtain ⟨hw1, k2⟩ := kk v w1 hp
    subst hw1
    exact k2 H1 locs1 ls (ro_world hP hD hC hk1 hP1) hD hS1 hL)
theorem sw_callIJ (C : Cx X l g y cc nL r rm)  (hM : Ct l g y' b' n' none rm' (.ref a :: As) wc post) (S : Si y' b' n' np) (hl : Cond.methodLink y.cls idx y' ∈ TT) (is : List Nat) (hC : is.map (fun i => ws[i]?) = wc.map some) (hnd : va_nd is = true) (isR : List Nat) (hR : isR.map (fun i => ws[i]?) = wr.map some) (hn : va_nd isR = true) (hdis : ∀ i ∈ isR, i ∉ is) (hnp : As.length = np) {st0 : List Value} (hst : st0 = As.reverse ++ .ref a :: st) (hW : (st.map fun v => v.category).sum ≤ 8) (hf : rm'.frames + 1 ≤ rm.frames) (hlo : 8 + (n' + 11) + rm'.locals ≤ rm.locals) (hc : k + rm'.cells ≤ rm.cells) (hs : n + rm'.slots ≤ rm.slots) (hd : decode cc pc = .ok (.invokespecial idx, 3)) (kk : ∀ (v : Option Value) (w1 : va_W), post v w1 → SW X g nL (k + rm'.cells) (n + rm'.slots) (wr ++ w1) (pc + 3) L (v.toList ++ st)) : SW X g nL k n ws pc L st0 := by
  obtain ⟨p, l0, e, R, s, m, args, below, meth, c, A, Q⟩ := X
  obtain ⟨hx, hb, hml, hown, hts, hK, hA, hr, hlk, hnm, hrm, hl0⟩ := C
  intro H locs ls hP hD hS hL
  subst hrm
  subst hl0
  subst hst
  have hPc := hP.sub (ws' := wc) is (pick_of (ws' := wc) is wc hC)
  have hDc := hD.sub (ws' := wc) is hnd hC
  exact run_go (post := post) (wc := wc) (va_runI (As := As) (rest := st) ⟨hx, hb, hml, hown, hts⟩ (hM H.size) (⟨callB_of np hts (TT_good S.1) rfl rfl rfl (hts _ S.2.2.1) (hts _ hl) ⟨S.2.2.2.1, S.2.2.2.2.1, S.2.2.2.2.2.1⟩ ⟨hf, hlo⟩, S.2.2.2.2.2.2, hts _ S.2.1⟩) ⟨pg_blind, fun U hU hW1 => pg_pre hU hW1 hK hPc hDc⟩ rfl hnp hL.1 rfl (lv_room hW) hd ⟨hc, hs⟩) hD hS hA is hC (fun v w1 hp H1 locs1 hP1 hD1 hk1 hF1 hS1 => by
    obtain ⟨hPj, hDj⟩ := va_join (wr := wr) (w1 := w1) hP hD is isR hC hR hn hdis hk1 hF1 hP1 hD1
    exact kk v w1 hp H1 locs1 ls hPj hDj hS1 hL)
theorem sw_callIP (C : Cx X l g y cc nL r rm)  (hM : Ct l g y' b' n' none rm' (.ref a :: As) wc post) (S : Si y' b' n' np) (hl : Cond.methodLink y.cls idx y' ∈ TT) (is : List Nat) (hC : is.map (fun i => ws[i]?) = wc.map some) (hnd : va_nd is = true) (hnp : As.length = np) {st0 : List Value} (hst : st0 = As.reverse ++ .ref a :: st) (hW : (st.map fun v => v.category).sum ≤ 8) (hf : rm'.frames + 1 ≤ rm.frames) (hlo : 8 + (n' + 11) + rm'.locals ≤ rm.locals) (hc : k + rm'.cells ≤ rm.cells) (hs : n + rm'.slots ≤ rm.slots) (hd : decode cc pc = .ok (.invokespecial idx, 3)) (kk : ∀ (v : Option Value) (w1 : va_W), post v w1 → w1.map Prod.fst = wc.map Prod.fst ∧ SW X g nL (k + rm'.cells) (n + rm'.slots) (putb ws is w1) (pc + 3) L (v.toList ++ st)) : SW X g nL k n ws pc L st0 := by
  obtain ⟨p, l0, e, R, s, m, args, below, meth, c, A, Q⟩ := X
  obtain ⟨hx, hb, hml, hown, hts, hK, hA, hr, hlk, hnm, hrm, hl0⟩ := C
  intro H locs ls hP hD hS hL
  subst hrm
  subst hl0
  subst hst
  have hPc := hP.sub (ws' := wc) is (pick_of (ws' := wc) is wc hC)
  have hDc := hD.sub (ws' := wc) is hnd hC
  exact run_go (post := post) (wc := wc) (va_runI (As := As) (rest := st) ⟨hx, hb, hml, hown, hts⟩ (hM H.size) (⟨callB_of np hts (TT_good S.1) rfl rfl rfl (hts _ S.2.2.1) (hts _ hl) ⟨S.2.2.2.1, S.2.2.2.2.1, S.2.2.2.2.2.1⟩ ⟨hf, hlo⟩, S.2.2.2.2.2.2, hts _ S.2.1⟩) ⟨pg_blind, fun U hU hW1 => pg_pre hU hW1 hK hPc hDc⟩ rfl hnp hL.1 rfl (lv_room hW) hd ⟨hc, hs⟩) hD hS hA is hC (fun v w1 hp H1 locs1 hP1 hD1 hk1 hF1 hS1 => by
    obtain ⟨hadr, kk⟩ := kk v w1 hp
    obtain ⟨hPj, hDj⟩ := put_world hP hD hC hnd hadr hk1 hP1
    exact kk H1 locs1 ls hPj hDj hS1 hL)
theorem sw_callINJ (C : Cx X l g y cc nL r rm)  (hM : Ct l g y' b' n' none rm' (.ref a :: As) wc post) (S : Si y' b' n' np) (host : String) (hl : Cond.methodLinkNest y.cls idx y' host ∈ lw_tbl) (is : List Nat) (hC : is.map (fun i => ws[i]?) = wc.map some) (hnd : va_nd is = true) (isR : List Nat) (hR : isR.map (fun i => ws[i]?) = wr.map some) (hn : va_nd isR = true) (hdis : ∀ i ∈ isR, i ∉ is) (hnp : As.length = np) {st0 : List Value} (hst : st0 = As.reverse ++ .ref a :: st) (hW : (st.map fun v => v.category).sum ≤ 8) (hf : rm'.frames + 1 ≤ rm.frames) (hlo : 8 + (n' + 11) + rm'.locals ≤ rm.locals) (hc : k + rm'.cells ≤ rm.cells) (hs : n + rm'.slots ≤ rm.slots) (hd : decode cc pc = .ok (.invokespecial idx, 3)) (kk : ∀ (v : Option Value) (w1 : va_W), post v w1 → SW X g nL (k + rm'.cells) (n + rm'.slots) (wr ++ w1) (pc + 3) L (v.toList ++ st)) : SW X g nL k n ws pc L st0 := by
  obtain ⟨p, l0, e, R, s, m, args, below, meth, c, A, Q⟩ := X
  obtain ⟨hx, hb, hml, hown, hts, hK, hA, hr, hlk, hnm, hrm, hl0⟩ := C
  intro H locs ls hP hD hS hL
  subst hrm
  subst hl0
  subst hst
  have hPc := hP.sub (ws' := wc) is (pick_of (ws' := wc) is wc hC)
  have hDc := hD.sub (ws' := wc) is hnd hC
  exact run_go (post := post) (wc := wc) (va_runIN (As := As) (rest := st) ⟨hx, hb, hml, hown, hts⟩ (hM H.size) (⟨va_cnB np hts (TT_good S.1) rfl rfl rfl (hK.2 _ hl rfl) (hts _ S.2.2.1) ⟨S.2.2.2.1, S.2.2.2.2.1, S.2.2.2.2.2.1⟩ ⟨hf, hlo⟩, S.2.2.2.2.2.2, hts _ S.2.1⟩) ⟨pg_blind, fun U hU hW1 => pg_pre hU hW1 hK hPc hDc⟩ rfl hnp hL.1 rfl (lv_room hW) hd ⟨hc, hs⟩) hD hS hA is hC (fun v w1 hp H1 locs1 hP1 hD1 hk1 hF1 hS1 => by
    obtain ⟨hPj, hDj⟩ := va_join (wr := wr) (w1 := w1) hP hD is isR hC hR hn hdis hk1 hF1 hP1 hD1
    exact kk v w1 hp H1 locs1 ls hPj hDj hS1 hL)
theorem sw_callINP (C : Cx X l g y cc nL r rm)  (hM : Ct l g y' b' n' none rm' (.ref a :: As) wc post) (S : Si y' b' n' np) (host : String) (hl : Cond.methodLinkNest y.cls idx y' host ∈ lw_tbl) (is : List Nat) (hC : is.map (fun i => ws[i]?) = wc.map some) (hnd : va_nd is = true) (hnp : As.length = np) {st0 : List Value} (hst : st0 = As.reverse ++ .ref a :: st) (hW : (st.map fun v => v.category).sum ≤ 8) (hf : rm'.frames + 1 ≤ rm.frames) (hlo : 8 + (n' + 11) + rm'.locals ≤ rm.locals) (hc : k + rm'.cells ≤ rm.cells) (hs : n + rm'.slots ≤ rm.slots) (hd : decode cc pc = .ok (.invokespecial idx, 3)) (kk : ∀ (v : Option Value) (w1 : va_W), post v w1 → w1.map Prod.fst = wc.map Prod.fst ∧ SW X g nL (k + rm'.cells) (n + rm'.slots) (putb ws is w1) (pc + 3) L (v.toList ++ st)) : SW X g nL k n ws pc L st0 := by
  obtain ⟨p, l0, e, R, s, m, args, below, meth, c, A, Q⟩ := X
  obtain ⟨hx, hb, hml, hown, hts, hK, hA, hr, hlk, hnm, hrm, hl0⟩ := C
  intro H locs ls hP hD hS hL
  subst hrm
  subst hl0
  subst hst
  have hPc := hP.sub (ws' := wc) is (pick_of (ws' := wc) is wc hC)
  have hDc := hD.sub (ws' := wc) is hnd hC
  exact run_go (post := post) (wc := wc) (va_runIN (As := As) (rest := st) ⟨hx, hb, hml, hown, hts⟩ (hM H.size) (⟨va_cnB np hts (TT_good S.1) rfl rfl rfl (hK.2 _ hl rfl) (hts _ S.2.2.1) ⟨S.2.2.2.1, S.2.2.2.2.1, S.2.2.2.2.2.1⟩ ⟨hf, hlo⟩, S.2.2.2.2.2.2, hts _ S.2.1⟩) ⟨pg_blind, fun U hU hW1 => pg_pre hU hW1 hK hPc hDc⟩ rfl hnp hL.1 rfl (lv_room hW) hd ⟨hc, hs⟩) hD hS hA is hC (fun v w1 hp H1 locs1 hP1 hD1 hk1 hF1 hS1 => by
    obtain ⟨hadr, kk⟩ := kk v w1 hp
    obtain ⟨hPj, hDj⟩ := put_world hP hD hC hnd hadr hk1 hP1
    exact kk H1 locs1 ls hPj hDj hS1 hL)
/-- a call of an inherited or abstract method: x' is named, the receiver's class Cn selects y' -/
def Su (x' y' : MethodName) (Cn owner : String) (b : ByteArray) (n : Nat) (r : Option FieldType) (np : Nat) : Prop := Cond.code y' b n r ∈ TT ∧ Cond.sameMethod x'.cls owner x'.name x'.desc ∈ TT ∧ (∀ (args : Array Value) (s : State), (∀ w ∈ TT, w.before args s = true) → (Cond.selects Cn x' y').before args s = true) ∧ Cond.instanceMethod y' ∈ TT ∧ Cond.initialized y'.cls ∈ TT ∧ owner ≠ "java/lang/invoke/MethodHandle" ∧ owner ≠ "java/lang/invoke/VarHandle" ∧ (parseMethodDescriptor x'.desc).map (fun d => d.parameters.length) = some np
theorem su_len {x' : MethodName} {np : Nat} (h : (parseMethodDescriptor x'.desc).map (fun d => d.parameters.length) = some np) : ∀ sig, parseMethodDescriptor x'.desc = some sig → np = sig.parameters.length := by
  intro sig h1
  rw [h1] at h
  exact (Option.some.inj h).symm
/-- the method found under another name of the same -/
theorem sel_as {C : String} {x x' y : MethodName} {args : Array Value} {s : State} (h : (Cond.selects C x y).before args s = true) (h1 : s.methodFound? x'.cls x'.name x'.desc = s.methodFound? x.cls x.name x.desc) : (Cond.selects C x' y).before args s = true := by
  have h2 := h
  simp only [Cond.before, Cond.holds, Cond.value] at h2 ⊢
  rw [h1]
  exact h2
theorem sel_up {C sub owner nm ds : String} {y : MethodName} {args : Array Value} {s : State} (h : (Cond.selects C ⟨owner, nm, ds⟩ y).before args s = true) (h1 : (Cond.sameMethod sub owner nm ds).before args s = true) (h2 : (Cond.sameMethod owner owner nm ds).before args s = true) : (Cond.selects C ⟨sub, nm, ds⟩ y).before args s = true := by
  obtain ⟨_, _, r, _, _, _, f1, n1⟩ := Cond.sameMethod_found h1
  obtain ⟨_, _, r', _, _, _, f2, n2⟩ := Cond.sameMethod_found h2
  have e : r = r' := Option.some.inj (n1.symm.trans n2)
  exact sel_as h (by dsimp only; rw [f1, f2, e])
/-- a private method of a superclass -/
theorem sel_priv {C : String} {n : Nat} {y : MethodName} {args : Array Value} {s : State} (hins : (Cond.instantiable C n).before args s = true) (hpriv : (Cond.privateMethod y).before args s = true) (hinst : (Cond.instanceMethod y).before args s = true) (hsame : (Cond.sameMethod y.cls y.cls y.name y.desc).before args s = true) : (Cond.selects C y y).before args s = true := by
  obtain ⟨c, k, hc, hk, -, -, -, -⟩ := Cond.instantiable_spec hins
  obtain ⟨mk, methM, hnamed, hmethM, -, -⟩ := Cond.instanceMethod_spec hinst
  obtain ⟨c2, ck, r, g1, g2, g3, f1, n1⟩ := Cond.sameMethod_found hsame
  have e : r = mk := Option.some.inj (n1.symm.trans hnamed)
  subst e
  have hcls : r.cls = c2 := Option.some.inj ((findClass_of_methodNamed hnamed).symm.trans g1)
  have hsel : selectMethod {} s.vm c r = .method r := selectMethod_private hmethM (Cond.privateMethod_at hpriv r methM hnamed hmethM)
  simp only [Cond.before, Cond.holds, Cond.value, hc, f1, hnamed, hsel, hcls, g2]
  simp; exact g3
theorem sw_callUP (C : Cx X l g y cc nL r rm) {x' : MethodName} {Cn owner : String} (hM : Ct l g y' b' n' r' rm' (.ref a :: As) wc post) (S : Su x' y' Cn owner b' n' r' np) (hl : Cond.methodLink y.cls idx x' ∈ TT) (hyx : y' = ⟨owner, x'.name, x'.desc⟩) {ci : Nat} {Cq : vw_C} {fs : List Value} (hrecv : wc[0]? = some (a, .inr (ci, fs))) (hcl : vwCl[ci]? = some Cq) (hcn : Cq.1 = Cn) (is : List Nat) (hC : is.map (fun i => ws[i]?) = wc.map some) (hnd : va_nd is = true) (hnp : As.length = np) {st0 : List Value} (hst : st0 = As.reverse ++ .ref a :: st) (hW : (st.map fun v => v.category).sum ≤ 8) (hf : rm'.frames + 1 ≤ rm.frames) (hlo : 8 + (n' + 11) + rm'.locals ≤ rm.locals) (hc : k + rm'.cells ≤ rm.cells) (hs : n + rm'.slots ≤ rm.slots) (hd : decode cc pc = .ok (.invokevirtual idx, 3)) (kk : ∀ (v : Option Value) (w1 : va_W), post v w1 → w1.map Prod.fst = wc.map Prod.fst ∧ SW X g nL (k + rm'.cells) (n + rm'.slots) (putb ws is w1) (pc + 3) L (v.toList ++ st)) : SW X g nL k n ws pc L st0 := by
  obtain ⟨p, l0, e, R, s, m, args, below, meth, c, A, Q⟩ := X
  obtain ⟨hx, hb, hml, hown, hts, hK, hA, hr, hlk, hnm, hrm, hl0⟩ := C
  intro H locs ls hP hD hS hL
  subst hrm
  subst hl0
  subst hst
  have hPc := hP.sub (ws' := wc) is (pick_of (ws' := wc) is wc hC)
  have hDc := hD.sub (ws' := wc) is hnd hC
  exact run_go (post := post) (wc := wc) (va_runU (As := As) (rest := st) ⟨hx, hb, hml, hown, hts⟩ (hM H.size) (⟨⟨rfl, rfl, hf, hlo, pay_in hts (TT_good S.1), List.mem_cons_self⟩, hts _ S.1, hts _ S.2.2.2.2.1, ⟨S.2.2.2.2.2.1, S.2.2.2.2.2.2.1⟩, su_len S.2.2.2.2.2.2.2, hts _ hl, hts _ S.2.1, (by rw [← hyx]; exact va_Decl.of (hts _ S.2.2.2.1) (hts _ S.1)), S.2.2.1 _ _ hts, hts _ S.2.2.2.1⟩) ⟨pg_blind, (by have h0 := va_recv hK.1 hPc hcl hrecv; rw [hcn] at h0; exact h0), fun U hU hW1 => pg_pre hU hW1 hK hPc hDc⟩ rfl hnp hL.1 rfl (lv_room hW) hd ⟨hc, hs⟩) hD hS hA is hC (fun v w1 hp H1 locs1 hP1 hD1 hk1 hF1 hS1 => by
    obtain ⟨hadr, kk⟩ := kk v w1 hp
    obtain ⟨hPj, hDj⟩ := put_world hP hD hC hnd hadr hk1 hP1
    exact kk H1 locs1 ls hPj hDj hS1 hL)
theorem sw_callUR (C : Cx X l g y cc nL r rm) {x' : MethodName} {Cn owner : String} (hM : Ct l g y' b' n' r' rm' (.ref a :: As) wc post) (S : Su x' y' Cn owner b' n' r' np) (hl : Cond.methodLink y.cls idx x' ∈ TT) (hyx : y' = ⟨owner, x'.name, x'.desc⟩) {ci : Nat} {Cq : vw_C} {fs : List Value} (hrecv : wc[0]? = some (a, .inr (ci, fs))) (hcl : vwCl[ci]? = some Cq) (hcn : Cq.1 = Cn) (is : List Nat) (hC : is.map (fun i => ws[i]?) = wc.map some) (hnd : va_nd is = true) (hnp : As.length = np) {st0 : List Value} (hst : st0 = As.reverse ++ .ref a :: st) (hW : (st.map fun v => v.category).sum ≤ 8) (hf : rm'.frames + 1 ≤ rm.frames) (hlo : 8 + (n' + 11) + rm'.locals ≤ rm.locals) (hc : k + rm'.cells ≤ rm.cells) (hs : n + rm'.slots ≤ rm.slots) (hd : decode cc pc = .ok (.invokevirtual idx, 3)) (kk : ∀ (v : Option Value) (w1 : va_W), post v w1 → w1 = wc ∧ SW X g nL (k + rm'.cells) (n + rm'.slots) ws (pc + 3) L (v.toList ++ st)) : SW X g nL k n ws pc L st0 := by
  obtain ⟨p, l0, e, R, s, m, args, below, meth, c, A, Q⟩ := X
  obtain ⟨hx, hb, hml, hown, hts, hK, hA, hr, hlk, hnm, hrm, hl0⟩ := C
  intro H locs ls hP hD hS hL
  subst hrm
  subst hl0
  subst hst
  have hPc := hP.sub (ws' := wc) is (pick_of (ws' := wc) is wc hC)
  have hDc := hD.sub (ws' := wc) is hnd hC
  exact run_go (post := post) (wc := wc) (va_runU (As := As) (rest := st) ⟨hx, hb, hml, hown, hts⟩ (hM H.size) (⟨⟨rfl, rfl, hf, hlo, pay_in hts (TT_good S.1), List.mem_cons_self⟩, hts _ S.1, hts _ S.2.2.2.2.1, ⟨S.2.2.2.2.2.1, S.2.2.2.2.2.2.1⟩, su_len S.2.2.2.2.2.2.2, hts _ hl, hts _ S.2.1, (by rw [← hyx]; exact va_Decl.of (hts _ S.2.2.2.1) (hts _ S.1)), S.2.2.1 _ _ hts, hts _ S.2.2.2.1⟩) ⟨pg_blind, (by have h0 := va_recv hK.1 hPc hcl hrecv; rw [hcn] at h0; exact h0), fun U hU hW1 => pg_pre hU hW1 hK hPc hDc⟩ rfl hnp hL.1 rfl (lv_room hW) hd ⟨hc, hs⟩) hD hS hA is hC (fun v w1 hp H1 locs1 hP1 hD1 hk1 hF1 hS1 => by
    obtain ⟨hw1, k2⟩ := kk v w1 hp
    subst hw1
    exact k2 H1 locs1 ls (ro_world hP hD hC hk1 hP1) hD hS1 hL)
theorem sw_callAP (C : Cx X l g y cc nL r rm) {x' : MethodName} {Cn owner : String} (hM : Ct l g y' b' n' r' rm' (.ref a :: As) wc post) (S : Su x' y' Cn owner b' n' r' np) (hl : Cond.methodLink y.cls idx x' ∈ TT) (hz : Cond.declares ⟨owner, x'.name, x'.desc⟩ ∈ lw_tbl) {ci : Nat} {Cq : vw_C} {fs : List Value} (hrecv : wc[0]? = some (a, .inr (ci, fs))) (hcl : vwCl[ci]? = some Cq) (hcn : Cq.1 = Cn) (is : List Nat) (hC : is.map (fun i => ws[i]?) = wc.map some) (hnd : va_nd is = true) (hnp : As.length = np) {st0 : List Value} (hst : st0 = As.reverse ++ .ref a :: st) (hW : (st.map fun v => v.category).sum ≤ 8) (hf : rm'.frames + 1 ≤ rm.frames) (hlo : 8 + (n' + 11) + rm'.locals ≤ rm.locals) (hc : k + rm'.cells ≤ rm.cells) (hs : n + rm'.slots ≤ rm.slots) (hd : decode cc pc = .ok (.invokevirtual idx, 3)) (kk : ∀ (v : Option Value) (w1 : va_W), post v w1 → w1.map Prod.fst = wc.map Prod.fst ∧ SW X g nL (k + rm'.cells) (n + rm'.slots) (putb ws is w1) (pc + 3) L (v.toList ++ st)) : SW X g nL k n ws pc L st0 := by
  obtain ⟨p, l0, e, R, s, m, args, below, meth, c, A, Q⟩ := X
  obtain ⟨hx, hb, hml, hown, hts, hK, hA, hr, hlk, hnm, hrm, hl0⟩ := C
  intro H locs ls hP hD hS hL
  subst hrm
  subst hl0
  subst hst
  have hPc := hP.sub (ws' := wc) is (pick_of (ws' := wc) is wc hC)
  have hDc := hD.sub (ws' := wc) is hnd hC
  exact run_go (post := post) (wc := wc) (va_runU (As := As) (rest := st) ⟨hx, hb, hml, hown, hts⟩ (hM H.size) (⟨⟨rfl, rfl, hf, hlo, pay_in hts (TT_good S.1), List.mem_cons_self⟩, hts _ S.1, hts _ S.2.2.2.2.1, ⟨S.2.2.2.2.2.1, S.2.2.2.2.2.2.1⟩, su_len S.2.2.2.2.2.2.2, hts _ hl, hts _ S.2.1, va_Decl.abs (hK.2 _ hz rfl), S.2.2.1 _ _ hts, hts _ S.2.2.2.1⟩) ⟨pg_blind, (by have h0 := va_recv hK.1 hPc hcl hrecv; rw [hcn] at h0; exact h0), fun U hU hW1 => pg_pre hU hW1 hK hPc hDc⟩ rfl hnp hL.1 rfl (lv_room hW) hd ⟨hc, hs⟩) hD hS hA is hC (fun v w1 hp H1 locs1 hP1 hD1 hk1 hF1 hS1 => by
    obtain ⟨hadr, kk⟩ := kk v w1 hp
    obtain ⟨hPj, hDj⟩ := put_world hP hD hC hnd hadr hk1 hP1
    exact kk H1 locs1 ls hPj hDj hS1 hL)
theorem sw_callAR (C : Cx X l g y cc nL r rm) {x' : MethodName} {Cn owner : String} (hM : Ct l g y' b' n' r' rm' (.ref a :: As) wc post) (S : Su x' y' Cn owner b' n' r' np) (hl : Cond.methodLink y.cls idx x' ∈ TT) (hz : Cond.declares ⟨owner, x'.name, x'.desc⟩ ∈ lw_tbl) {ci : Nat} {Cq : vw_C} {fs : List Value} (hrecv : wc[0]? = some (a, .inr (ci, fs))) (hcl : vwCl[ci]? = some Cq) (hcn : Cq.1 = Cn) (is : List Nat) (hC : is.map (fun i => ws[i]?) = wc.map some) (hnd : va_nd is = true) (hnp : As.length = np) {st0 : List Value} (hst : st0 = As.reverse ++ .ref a :: st) (hW : (st.map fun v => v.category).sum ≤ 8) (hf : rm'.frames + 1 ≤ rm.frames) (hlo : 8 + (n' + 11) + rm'.locals ≤ rm.locals) (hc : k + rm'.cells ≤ rm.cells) (hs : n + rm'.slots ≤ rm.slots) (hd : decode cc pc = .ok (.invokevirtual idx, 3)) (kk : ∀ (v : Option Value) (w1 : va_W), post v w1 → w1 = wc ∧ SW X g nL (k + rm'.cells) (n + rm'.slots) ws (pc + 3) L (v.toList ++ st)) : SW X g nL k n ws pc L st0 := by
  obtain ⟨p, l0, e, R, s, m, args, below, meth, c, A, Q⟩ := X
  obtain ⟨hx, hb, hml, hown, hts, hK, hA, hr, hlk, hnm, hrm, hl0⟩ := C
  intro H locs ls hP hD hS hL
  subst hrm
  subst hl0
  subst hst
  have hPc := hP.sub (ws' := wc) is (pick_of (ws' := wc) is wc hC)
  have hDc := hD.sub (ws' := wc) is hnd hC
  exact run_go (post := post) (wc := wc) (va_runU (As := As) (rest := st) ⟨hx, hb, hml, hown, hts⟩ (hM H.size) (⟨⟨rfl, rfl, hf, hlo, pay_in hts (TT_good S.1), List.mem_cons_self⟩, hts _ S.1, hts _ S.2.2.2.2.1, ⟨S.2.2.2.2.2.1, S.2.2.2.2.2.2.1⟩, su_len S.2.2.2.2.2.2.2, hts _ hl, hts _ S.2.1, va_Decl.abs (hK.2 _ hz rfl), S.2.2.1 _ _ hts, hts _ S.2.2.2.1⟩) ⟨pg_blind, (by have h0 := va_recv hK.1 hPc hcl hrecv; rw [hcn] at h0; exact h0), fun U hU hW1 => pg_pre hU hW1 hK hPc hDc⟩ rfl hnp hL.1 rfl (lv_room hW) hd ⟨hc, hs⟩) hD hS hA is hC (fun v w1 hp H1 locs1 hP1 hD1 hk1 hF1 hS1 => by
    obtain ⟨hw1, k2⟩ := kk v w1 hp
    subst hw1
    exact k2 H1 locs1 ls (ro_world hP hD hC hk1 hP1) hD hS1 hL)
end SWC2
theorem cell_congr {cA : ClassId} {N : Nat} {f f' : Nat → Int32} (h : ∀ j, j < N → f j = f' j) : vp_cell cA (N, .inl f) = vp_cell cA (N, .inl f') := by
  rw [vp_cell_i, vp_cell_i]
  unfold arrV
  congr 2
  funext j
  show Value.int (f j.val) = Value.int (f' j.val)
  rw [h j.val j.isLt]
theorem cell_congrL {cA : ClassId} {N : Nat} {f f' : Nat → Int64} (h : ∀ j, j < N → f j = f' j) : vp_cell cA (N, .inr (.inl f)) = vp_cell cA (N, .inr (.inl f')) := by
  rw [vp_cell_l, vp_cell_l]
  unfold arrV
  congr 2
  funext j
  show Value.long (f j.val) = Value.long (f' j.val)
  rw [h j.val j.isLt]
theorem cell_congrQ {cA : ClassId} {N : Nat} {f f' : Nat → Option Nat} (h : ∀ j, j < N → f j = f' j) : vp_cell cA (N, .inr (.inr (.inr (.inr f)))) = vp_cell cA (N, .inr (.inr (.inr (.inr f')))) := by
  rw [vp_cell_q, vp_cell_q]
  unfold arrV
  congr 2
  funext j
  show va_rf (f j.val) = va_rf (f' j.val)
  rw [h j.val j.isLt]
/-- a truth value as an int -/
def bI (b : Bool) : Int32 := if b then 1 else 0
theorem bI_nar (b : Bool) : narrow .boolean (.int (bI b)) = .int (bI b) := by cases b <;> rfl
theorem bI_fit (b : Bool) : fits .boolean (.int (bI b)) = true := by cases b <;> rfl
theorem bI_vnar (b : Bool) : vp_nar .boolean (bI b) = bI b := by cases b <;> rfl
theorem bI_0 {b : Bool} : bI b = 0 ↔ b = false := by cases b <;> decide
theorem bI_1 {b : Bool} : bI b = 1 ↔ b = true := by cases b <;> decide
section SWN
variable {X : Cz} {l : Launch} {g : Gl} {y : MethodName} {cc : ByteArray} {nL k n pc : Nat} {r : Option FieldType} {rm : Room} {ws : va_W} {L : List (Option Value)} {st : List Value}
/-- an array's function below its length counts alone -/
theorem sw_arr {a N : Nat} {cA : ClassId} {f f' : Nat → Int32} (q0 : Nat) (he : ws[q0]? = some (a, .inl (cA, N, .inl f))) (h : ∀ j, j < N → f j = f' j) (kk : SW X g nL k n (ws.set q0 (a, .inl (cA, N, .inl f'))) pc L st) : SW X g nL k n ws pc L st := by
  obtain ⟨p, l0, e, R, s, m, args, below, meth, c, A, Q⟩ := X
  intro H locs ls hP hD hS hL
  refine kk H locs ls (hP.set hD he ?_ (fun _ _ => rfl)) (hD.set he) hS hL
  show H[a]? = some (vp_cell cA (N, .inl f'))
  rw [← cell_congr h]
  exact hP q0 _ he
theorem sw_arrL {a N : Nat} {cA : ClassId} {f f' : Nat → Int64} (q0 : Nat) (he : ws[q0]? = some (a, .inl (cA, N, .inr (.inl f)))) (h : ∀ j, j < N → f j = f' j) (kk : SW X g nL k n (ws.set q0 (a, .inl (cA, N, .inr (.inl f')))) pc L st) : SW X g nL k n ws pc L st := by
  obtain ⟨p, l0, e, R, s, m, args, below, meth, c, A, Q⟩ := X
  intro H locs ls hP hD hS hL
  refine kk H locs ls (hP.set hD he ?_ (fun _ _ => rfl)) (hD.set he) hS hL
  show H[a]? = some (vp_cell cA (N, .inr (.inl f')))
  rw [← cell_congrL h]
  exact hP q0 _ he
theorem sw_arrQ {a N : Nat} {cA : ClassId} {f f' : Nat → Option Nat} (q0 : Nat) (he : ws[q0]? = some (a, .inl (cA, N, .inr (.inr (.inr (.inr f)))))) (h : ∀ j, j < N → f j = f' j) (kk : SW X g nL k n (ws.set q0 (a, .inl (cA, N, .inr (.inr (.inr (.inr f')))))) pc L st) : SW X g nL k n ws pc L st := by
  obtain ⟨p, l0, e, R, s, m, args, below, meth, c, A, Q⟩ := X
  intro H locs ls hP hD hS hL
  refine kk H locs ls (hP.set hD he ?_ (fun _ _ => rfl)) (hD.set he) hS hL
  show H[a]? = some (vp_cell cA (N, .inr (.inr (.inr (.inr f')))))
  rw [← cell_congrQ h]
  exact hP q0 _ he
theorem sw_ialdN (C : Cx X l g y cc nL r rm) {a N : Nat} {f : Nat → Int32} {i : Int32} (q0 j : Nat) (he : ws[q0]? = some (a, .inl (g.2.1, N, .inl f))) (hi : i = nI j) (hj : j < N) (hN : N < 2 ^ 31) (hd : decode cc pc = .ok (.iaload, 1)) (kk : SW X g nL k n ws (pc + 1) L (.int (f j) :: st)) : SW X g nL k n ws (pc) L (.int i :: .ref a :: st) := by
  subst hi
  refine sw_iald C q0 he (vp_in_nI hj hN) hd ?_
  rw [nI_clamp (Nat.lt_trans hj hN)]
  exact kk
theorem sw_zaldN (C : Cx X l g y cc nL r rm) {a N : Nat} {f : Nat → Int32} {i : Int32} (q0 j : Nat) (he : ws[q0]? = some (a, .inl (g.2.2.2.1, N, .inl f))) (hi : i = nI j) (hj : j < N) (hN : N < 2 ^ 31) (hd : decode cc pc = .ok (.baload, 1)) (kk : SW X g nL k n ws (pc + 1) L (.int (f j) :: st)) : SW X g nL k n ws (pc) L (.int i :: .ref a :: st) := by
  subst hi
  refine sw_zald C q0 he (vp_in_nI hj hN) hd ?_
  rw [nI_clamp (Nat.lt_trans hj hN)]
  exact kk
theorem sw_laldN (C : Cx X l g y cc nL r rm) {a N : Nat} {f : Nat → Int64} {i : Int32} (q0 j : Nat) (he : ws[q0]? = some (a, .inl (g.2.2.1, N, .inr (.inl f)))) (hi : i = nI j) (hj : j < N) (hN : N < 2 ^ 31) (hd : decode cc pc = .ok (.laload, 1)) (kk : SW X g nL k n ws (pc + 1) L (.long (f j) :: st)) : SW X g nL k n ws (pc) L (.int i :: .ref a :: st) := by
  subst hi
  refine sw_lald C q0 he (vp_in_nI hj hN) hd ?_
  rw [nI_clamp (Nat.lt_trans hj hN)]
  exact kk
theorem sw_aaldN (C : Cx X l g y cc nL r rm) {a N : Nat} {f : Nat → Option Nat} {i : Int32} (q0 j : Nat) (he : ws[q0]? = some (a, .inl (g.2.2.2.2, N, .inr (.inr (.inr (.inr f)))))) (hi : i = nI j) (hj : j < N) (hN : N < 2 ^ 31) (hd : decode cc pc = .ok (.aaload, 1)) (kk : SW X g nL k n ws (pc + 1) L (va_rf (f j) :: st)) : SW X g nL k n ws (pc) L (.int i :: .ref a :: st) := by
  subst hi
  refine sw_aald C q0 he (vp_in_nI hj hN) hd ?_
  rw [nI_clamp (Nat.lt_trans hj hN)]
  exact kk
theorem sw_iastN (C : Cx X l g y cc nL r rm) {a N : Nat} {f : Nat → Int32} {i : Int32} {x : Int32} (q0 j : Nat) (he : ws[q0]? = some (a, .inl (g.2.1, N, .inl f))) (hi : i = nI j) (hj : j < N) (hN : N < 2 ^ 31) (hd : decode cc pc = .ok (.iastore, 1)) (kk : SW X g nL k n (ws.set q0 (a, .inl (g.2.1, N, .inl (upd f j x)))) (pc + 1) L st) : SW X g nL k n ws (pc) L (.int x :: .int i :: .ref a :: st) := by
  subst hi
  refine sw_iast C q0 he (vp_in_nI hj hN) hd ?_
  rw [nI_clamp (Nat.lt_trans hj hN)]
  exact kk
theorem sw_lastN (C : Cx X l g y cc nL r rm) {a N : Nat} {f : Nat → Int64} {i : Int32} {x : Int64} (q0 j : Nat) (he : ws[q0]? = some (a, .inl (g.2.2.1, N, .inr (.inl f)))) (hi : i = nI j) (hj : j < N) (hN : N < 2 ^ 31) (hd : decode cc pc = .ok (.lastore, 1)) (kk : SW X g nL k n (ws.set q0 (a, .inl (g.2.2.1, N, .inr (.inl (vp_updL f j x))))) (pc + 1) L st) : SW X g nL k n ws (pc) L (.long x :: .int i :: .ref a :: st) := by
  subst hi
  refine sw_last C q0 he (vp_in_nI hj hN) hd ?_
  rw [nI_clamp (Nat.lt_trans hj hN)]
  exact kk
theorem sw_zastN (C : Cx X l g y cc nL r rm) {a N : Nat} {f : Nat → Int32} {i : Int32} {x : Bool} (q0 j : Nat) (he : ws[q0]? = some (a, .inl (g.2.2.2.1, N, .inl f))) (hi : i = nI j) (hj : j < N) (hN : N < 2 ^ 31) (hd : decode cc pc = .ok (.bastore, 1)) (kk : SW X g nL k n (ws.set q0 (a, .inl (g.2.2.2.1, N, .inl (upd f j (bI x))))) (pc + 1) L st) : SW X g nL k n ws (pc) L (.int (bI x) :: .int i :: .ref a :: st) := by
  subst hi
  refine sw_zast C q0 he (vp_in_nI hj hN) hd ?_
  rw [nI_clamp (Nat.lt_trans hj hN), bI_vnar]
  exact kk
theorem sw_icmp_ltN (C : Cx X l g y cc nL r rm) {a b : Nat} {off : Int} (tgt : Nat) (ha : a < 2 ^ 31) (hb : b < 2 ^ 31) (hd : decode cc pc = .ok (.if_icmp .lt off, 3)) (ht : (pc : Int) + off = (tgt : Int)) (kt : a < b → SW X g nL k n ws (tgt) L st) (kf : b ≤ a → SW X g nL k n ws (pc + 3) L st) : SW X g nL k n ws (pc) L (.int (nI b) :: .int (nI a) :: st) :=
  sw_icmp_lt C tgt hd ht (fun h => kt ((nI_ltI ha hb).mp h)) (fun h => kf (Nat.not_lt.mp (fun q => h ((nI_ltI ha hb).mpr q))))
theorem sw_icmp_geN (C : Cx X l g y cc nL r rm) {a b : Nat} {off : Int} (tgt : Nat) (ha : a < 2 ^ 31) (hb : b < 2 ^ 31) (hd : decode cc pc = .ok (.if_icmp .ge off, 3)) (ht : (pc : Int) + off = (tgt : Int)) (kt : b ≤ a → SW X g nL k n ws (tgt) L st) (kf : a < b → SW X g nL k n ws (pc + 3) L st) : SW X g nL k n ws (pc) L (.int (nI b) :: .int (nI a) :: st) :=
  sw_icmp_ge C tgt hd ht (fun h => kt ((nI_leI hb ha).mp h)) (fun h => kf (Nat.not_le.mp (fun q => h ((nI_leI hb ha).mpr q))))
theorem sw_icmp_gtN (C : Cx X l g y cc nL r rm) {a b : Nat} {off : Int} (tgt : Nat) (ha : a < 2 ^ 31) (hb : b < 2 ^ 31) (hd : decode cc pc = .ok (.if_icmp .gt off, 3)) (ht : (pc : Int) + off = (tgt : Int)) (kt : b < a → SW X g nL k n ws (tgt) L st) (kf : a ≤ b → SW X g nL k n ws (pc + 3) L st) : SW X g nL k n ws (pc) L (.int (nI b) :: .int (nI a) :: st) :=
  sw_icmp_gt C tgt hd ht (fun h => kt ((nI_ltI hb ha).mp h)) (fun h => kf (Nat.not_lt.mp (fun q => h ((nI_ltI hb ha).mpr q))))
theorem sw_icmp_leN (C : Cx X l g y cc nL r rm) {a b : Nat} {off : Int} (tgt : Nat) (ha : a < 2 ^ 31) (hb : b < 2 ^ 31) (hd : decode cc pc = .ok (.if_icmp .le off, 3)) (ht : (pc : Int) + off = (tgt : Int)) (kt : a ≤ b → SW X g nL k n ws (tgt) L st) (kf : b < a → SW X g nL k n ws (pc + 3) L st) : SW X g nL k n ws (pc) L (.int (nI b) :: .int (nI a) :: st) :=
  sw_icmp_le C tgt hd ht (fun h => kt ((nI_leI ha hb).mp h)) (fun h => kf (Nat.not_le.mp (fun q => h ((nI_leI ha hb).mpr q))))
theorem sw_icmp_eqN (C : Cx X l g y cc nL r rm) {a b : Nat} {off : Int} (tgt : Nat) (ha : a < 2 ^ 31) (hb : b < 2 ^ 31) (hd : decode cc pc = .ok (.if_icmp .eq off, 3)) (ht : (pc : Int) + off = (tgt : Int)) (kt : a = b → SW X g nL k n ws (tgt) L st) (kf : a ≠ b → SW X g nL k n ws (pc + 3) L st) : SW X g nL k n ws (pc) L (.int (nI b) :: .int (nI a) :: st) :=
  sw_icmp_eq C tgt hd ht (fun h => kt ((nI_eq ha hb).mp h)) (fun h => kf (fun q => h ((nI_eq ha hb).mpr q)))
theorem sw_icmp_neN (C : Cx X l g y cc nL r rm) {a b : Nat} {off : Int} (tgt : Nat) (ha : a < 2 ^ 31) (hb : b < 2 ^ 31) (hd : decode cc pc = .ok (.if_icmp .ne off, 3)) (ht : (pc : Int) + off = (tgt : Int)) (kt : a ≠ b → SW X g nL k n ws (tgt) L st) (kf : a = b → SW X g nL k n ws (pc + 3) L st) : SW X g nL k n ws (pc) L (.int (nI b) :: .int (nI a) :: st) :=
  sw_icmp_ne C tgt hd ht (fun h => kt (fun q => h ((nI_eq ha hb).mpr q))) (fun h => kf ((nI_eq ha hb).mp h))
theorem sw_if_eqN (C : Cx X l g y cc nL r rm) {a : Nat} {off : Int} (tgt : Nat) (ha : a < 2 ^ 31) (hd : decode cc pc = .ok (.ifCond .eq off, 3)) (ht : (pc : Int) + off = (tgt : Int)) (kt : a = 0 → SW X g nL k n ws (tgt) L st) (kf : 0 < a → SW X g nL k n ws (pc + 3) L st) : SW X g nL k n ws (pc) L (.int (nI a) :: st) :=
  sw_if_eq C tgt hd ht (fun h => kt (by have h : nI a = nI 0 := h; exact (nI_eq ha (by decide)).mp h)) (fun h => kf (by have h : ¬ nI a = nI 0 := h; exact Nat.pos_of_ne_zero (fun q => h ((nI_eq ha (by decide)).mpr q))))
theorem sw_if_neN (C : Cx X l g y cc nL r rm) {a : Nat} {off : Int} (tgt : Nat) (ha : a < 2 ^ 31) (hd : decode cc pc = .ok (.ifCond .ne off, 3)) (ht : (pc : Int) + off = (tgt : Int)) (kt : 0 < a → SW X g nL k n ws (tgt) L st) (kf : a = 0 → SW X g nL k n ws (pc + 3) L st) : SW X g nL k n ws (pc) L (.int (nI a) :: st) :=
  sw_if_ne C tgt hd ht (fun h => kt (by have h : ¬ nI a = nI 0 := h; exact Nat.pos_of_ne_zero (fun q => h ((nI_eq ha (by decide)).mpr q)))) (fun h => kf (by have h : nI a = nI 0 := h; exact (nI_eq ha (by decide)).mp h))
theorem sw_if_gtN (C : Cx X l g y cc nL r rm) {a : Nat} {off : Int} (tgt : Nat) (ha : a < 2 ^ 31) (hd : decode cc pc = .ok (.ifCond .gt off, 3)) (ht : (pc : Int) + off = (tgt : Int)) (kt : 0 < a → SW X g nL k n ws (tgt) L st) (kf : a = 0 → SW X g nL k n ws (pc + 3) L st) : SW X g nL k n ws (pc) L (.int (nI a) :: st) :=
  sw_if_gt C tgt hd ht (fun h => kt (by have h : nI 0 < nI a := h; exact (nI_ltI (by decide) ha).mp h)) (fun h => kf (by have h : ¬ nI 0 < nI a := h; exact Nat.eq_zero_of_not_pos (fun q => h ((nI_ltI (by decide) ha).mpr q))))
theorem sw_if_leN (C : Cx X l g y cc nL r rm) {a : Nat} {off : Int} (tgt : Nat) (ha : a < 2 ^ 31) (hd : decode cc pc = .ok (.ifCond .le off, 3)) (ht : (pc : Int) + off = (tgt : Int)) (kt : a = 0 → SW X g nL k n ws (tgt) L st) (kf : 0 < a → SW X g nL k n ws (pc + 3) L st) : SW X g nL k n ws (pc) L (.int (nI a) :: st) :=
  sw_if_le C tgt hd ht (fun h => kt (by have h : nI a ≤ nI 0 := h; exact Nat.le_zero.mp ((nI_leI ha (by decide)).mp h))) (fun h => kf (by have h : ¬ nI a ≤ nI 0 := h; exact Nat.not_le.mp (fun q => h ((nI_leI ha (by decide)).mpr q))))
theorem sw_if_ltN (C : Cx X l g y cc nL r rm) {a : Nat} {off : Int} (ha : a < 2 ^ 31) (tgt : Nat) (hd : decode cc pc = .ok (.ifCond .lt off, 3)) (ht : (pc : Int) + off = (tgt : Int)) (kf : SW X g nL k n ws (pc + 3) L st) : SW X g nL k n ws (pc) L (.int (nI a) :: st) :=
  sw_if_lt C tgt hd ht (fun h => absurd h (nI_pos ha)) (fun _ => kf)
theorem sw_if_geN (C : Cx X l g y cc nL r rm) {a : Nat} {off : Int} (ha : a < 2 ^ 31) (tgt : Nat) (hd : decode cc pc = .ok (.ifCond .ge off, 3)) (ht : (pc : Int) + off = (tgt : Int)) (kt : SW X g nL k n ws (tgt) L st) : SW X g nL k n ws (pc) L (.int (nI a) :: st) :=
  sw_if_ge C tgt hd ht (fun _ => kt) (fun h => absurd (nI_pos' ha) h)
theorem sw_if_eqB (C : Cx X l g y cc nL r rm) {b : Bool} {off : Int} (tgt : Nat) (hd : decode cc pc = .ok (.ifCond .eq off, 3)) (ht : (pc : Int) + off = (tgt : Int)) (kt : b = false → SW X g nL k n ws (tgt) L st) (kf : b = true → SW X g nL k n ws (pc + 3) L st) : SW X g nL k n ws (pc) L (.int (bI b) :: st) :=
  sw_if_eq C tgt hd ht (fun h => kt (bI_0.mp h)) (fun h => kf (by cases b with | true => rfl | false => exact absurd rfl h))
theorem sw_if_neB (C : Cx X l g y cc nL r rm) {b : Bool} {off : Int} (tgt : Nat) (hd : decode cc pc = .ok (.ifCond .ne off, 3)) (ht : (pc : Int) + off = (tgt : Int)) (kt : b = true → SW X g nL k n ws (tgt) L st) (kf : b = false → SW X g nL k n ws (pc + 3) L st) : SW X g nL k n ws (pc) L (.int (bI b) :: st) :=
  sw_if_ne C tgt hd ht (fun h => kt (by cases b with | true => rfl | false => exact absurd rfl h)) (fun h => kf (bI_0.mp h))
theorem sw_iincN (C : Cx X l g y cc nL r rm) {i a : Nat} {d : Int} (dv : Nat) (hd : decode cc pc = .ok (.iinc i d, 3)) (hv : L[i]? = some (some (.int (nI a)))) (hdv : Int32.ofInt d = nI dv) (hn : i < nL) (hok : okS L i = true) (kk : SW X g nL k n ws (pc + 3) (L.set i (some (.int (nI (a + dv))))) st) : SW X g nL k n ws (pc) L st := by
  refine sw_iinc C (nI dv) hd hv hdv hn hok ?_
  rw [nI_add]
  exact kk
theorem sw_idecN (C : Cx X l g y cc nL r rm) {i a : Nat} (hd : decode cc pc = .ok (.iinc i (-1), 3)) (hv : L[i]? = some (some (.int (nI a)))) (hn : i < nL) (ha : 1 ≤ a) (hok : okS L i = true) (kk : SW X g nL k n ws (pc + 3) (L.set i (some (.int (nI (a - 1))))) st) : SW X g nL k n ws (pc) L st := by
  refine sw_iinc C (-1) hd hv (by decide) hn hok ?_
  have e : nI a + (-1) = nI (a - 1) := sb_m1 ha
  rw [e]
  exact kk
end SWN
end
section
/-! the words that walks use, by their places in the tables -/
theorem t_0 : (Cond.initialized "LayeredPageLaw") ∈ TT := TT_in (List.mem_append_right _ (List.mem_of_getElem? (i := 0) (by decide +kernel))) rfl
theorem t_1 : (Cond.initialized "LayeredPage") ∈ TT := TT_in (List.mem_append_right _ (List.mem_of_getElem? (i := 1) (by decide +kernel))) rfl
theorem t_2 : (Cond.initialized "LayeredPage$Octets") ∈ TT := TT_in (List.mem_append_right _ (List.mem_of_getElem? (i := 2) (by decide +kernel))) rfl
theorem t_3 : (Cond.initialized "LayeredPage$DocumentWriter") ∈ TT := TT_in (List.mem_append_right _ (List.mem_of_getElem? (i := 3) (by decide +kernel))) rfl
theorem t_4 : (Cond.initialized "LayeredPage$Coder") ∈ TT := TT_in (List.mem_append_right _ (List.mem_of_getElem? (i := 4) (by decide +kernel))) rfl
theorem t_5 : (Cond.initialized "LayeredPage$CodeWriter") ∈ TT := TT_in (List.mem_append_right _ (List.mem_of_getElem? (i := 5) (by decide +kernel))) rfl
theorem t_6 : (Cond.initialized "java/util/Arrays") ∈ TT := TT_in (List.mem_append_right _ (List.mem_of_getElem? (i := 6) (by decide +kernel))) rfl
theorem t_7 : (Cond.initialized "LayeredPage$DocumentReader") ∈ TT := TT_in (List.mem_append_right _ (List.mem_of_getElem? (i := 7) (by decide +kernel))) rfl
theorem t_8 : (Cond.initialized "LayeredPage$CodeReader") ∈ TT := TT_in (List.mem_append_right _ (List.mem_of_getElem? (i := 8) (by decide +kernel))) rfl
theorem t_9 : (Cond.initialized "LayeredPage$Page") ∈ TT := TT_in (List.mem_append_right _ (List.mem_of_getElem? (i := 9) (by decide +kernel))) rfl
theorem t_10 : (Cond.initialized "LayeredPage$Layer") ∈ TT := TT_in (List.mem_append_right _ (List.mem_of_getElem? (i := 10) (by decide +kernel))) rfl
theorem t_11 : (Cond.initialized "LayeredPage$Shape") ∈ TT := TT_in (List.mem_append_right _ (List.mem_of_getElem? (i := 11) (by decide +kernel))) rfl
theorem t_12 : (Cond.initialized "LayeredPageModel") ∈ TT := TT_in (List.mem_append_right _ (List.mem_of_getElem? (i := 12) (by decide +kernel))) rfl
theorem t_13 : (Cond.initialized "java/lang/Math") ∈ TT := TT_in (List.mem_append_right _ (List.mem_of_getElem? (i := 13) (by decide +kernel))) rfl
theorem t_14 : (Cond.initialized "java/lang/System") ∈ TT := TT_in (List.mem_append_right _ (List.mem_of_getElem? (i := 14) (by decide +kernel))) rfl
theorem t_15 : (Cond.classLink "LayeredPageLaw" (7 : Nat) "LayeredPage") ∈ TT := TT_in (List.mem_append_right _ (List.mem_of_getElem? (i := 15) (by decide +kernel))) rfl
theorem t_16 : (Cond.instantiable "LayeredPage" (7 : Nat)) ∈ TT := TT_in (List.mem_append_right _ (List.mem_of_getElem? (i := 16) (by decide +kernel))) rfl
theorem t_17 : (Cond.methodLink "LayeredPageLaw" (9 : Nat) ({ cls := "LayeredPage", name := "<init>", desc := "()V" } : MethodName)) ∈ TT := TT_in (List.mem_append_right _ (List.mem_of_getElem? (i := 17) (by decide +kernel))) rfl
theorem t_18 : (Cond.instanceMethod ({ cls := "LayeredPage", name := "<init>", desc := "()V" } : MethodName)) ∈ TT := TT_in (List.mem_append_right _ (List.mem_of_getElem? (i := 18) (by decide +kernel))) rfl
set_option maxRecDepth 100000 in
theorem t_19 : (Cond.code ({ cls := "LayeredPage", name := "<init>", desc := "()V" } : MethodName) prog_1_method_1_code (1 : Nat) (Option.none : Option FieldType)) ∈ TT := TT_in (List.mem_append_right _ (List.mem_of_getElem? (i := 19) (rfl))) rfl
theorem t_20 : (Cond.methodLink "LayeredPage" (3 : Nat) ({ cls := "java/lang/Object", name := "<init>", desc := "()V" } : MethodName)) ∈ TT := TT_in (List.mem_append_right _ (List.mem_of_getElem? (i := 20) (by decide +kernel))) rfl
theorem t_21 : (Cond.instanceMethod ({ cls := "java/lang/Object", name := "<init>", desc := "()V" } : MethodName)) ∈ TT := TT_in (List.mem_append_right _ (List.mem_of_getElem? (i := 21) (by decide +kernel))) rfl
set_option maxRecDepth 100000 in
theorem t_22 : (Cond.code ({ cls := "java/lang/Object", name := "<init>", desc := "()V" } : MethodName) object_method_1_code (1 : Nat) (Option.none : Option FieldType)) ∈ TT := TT_in (List.mem_append_right _ (List.mem_of_getElem? (i := 22) (rfl))) rfl
theorem t_23 : (Cond.classLink "LayeredPage" (9 : Nat) "LayeredPage$Octets") ∈ TT := TT_in (List.mem_append_right _ (List.mem_of_getElem? (i := 23) (by decide +kernel))) rfl
theorem t_24 : (Cond.instantiable "LayeredPage$Octets" (2 : Nat)) ∈ TT := TT_in (List.mem_append_right _ (List.mem_of_getElem? (i := 24) (by decide +kernel))) rfl
theorem q_25 : (Cond.methodLinkNest "LayeredPage" (11 : Nat) ({ cls := "LayeredPage$Octets", name := "<init>", desc := "()V" } : MethodName) "LayeredPage") ∈ lw_tbl := List.mem_append_right _ (List.mem_of_getElem? (i := 25) (by decide +kernel))
theorem t_26 : (Cond.instanceMethod ({ cls := "LayeredPage$Octets", name := "<init>", desc := "()V" } : MethodName)) ∈ TT := TT_in (List.mem_append_right _ (List.mem_of_getElem? (i := 26) (by decide +kernel))) rfl
set_option maxRecDepth 100000 in
theorem t_27 : (Cond.code ({ cls := "LayeredPage$Octets", name := "<init>", desc := "()V" } : MethodName) prog_8_method_1_code (1 : Nat) (Option.none : Option FieldType)) ∈ TT := TT_in (List.mem_append_right _ (List.mem_of_getElem? (i := 27) (rfl))) rfl
theorem t_28 : (Cond.methodLink "LayeredPage$Octets" (3 : Nat) ({ cls := "java/lang/Object", name := "<init>", desc := "()V" } : MethodName)) ∈ TT := TT_in (List.mem_append_right _ (List.mem_of_getElem? (i := 28) (by decide +kernel))) rfl
theorem t_29 : (Cond.fieldLink "LayeredPage$Octets" (9 : Nat) "LayeredPage$Octets" "row" "[I") ∈ TT := TT_in (List.mem_append_right _ (List.mem_of_getElem? (i := 29) (by decide +kernel))) rfl
theorem t_30 : (Cond.fieldLink "LayeredPage$DocumentWriter" (71 : Nat) "LayeredPage$Octets" "row" "[I") ∈ TT := TT_in (List.mem_append_right _ (List.mem_of_getElem? (i := 30) (by decide +kernel))) rfl
theorem t_31 : (Cond.fieldLink "LayeredPage$DocumentReader" (65 : Nat) "LayeredPage$Octets" "row" "[I") ∈ TT := TT_in (List.mem_append_right _ (List.mem_of_getElem? (i := 31) (by decide +kernel))) rfl
theorem t_32 : (Cond.fieldLink "LayeredPage$Octets" (15 : Nat) "LayeredPage$Octets" "count" "I") ∈ TT := TT_in (List.mem_append_right _ (List.mem_of_getElem? (i := 32) (by decide +kernel))) rfl
theorem t_33 : (Cond.fieldLink "LayeredPage$DocumentReader" (29 : Nat) "LayeredPage$Octets" "count" "I") ∈ TT := TT_in (List.mem_append_right _ (List.mem_of_getElem? (i := 33) (by decide +kernel))) rfl
theorem t_34 : (Cond.fieldLink "LayeredPage$DocumentWriter" (75 : Nat) "LayeredPage$Octets" "count" "I") ∈ TT := TT_in (List.mem_append_right _ (List.mem_of_getElem? (i := 34) (by decide +kernel))) rfl
theorem t_35 : (Cond.fieldLink "LayeredPage" (98 : Nat) "LayeredPage$Octets" "count" "I") ∈ TT := TT_in (List.mem_append_right _ (List.mem_of_getElem? (i := 35) (by decide +kernel))) rfl
theorem t_36 : (Cond.laysFinal "LayeredPage$Octets" "LayeredPage$Octets" "row" "[I") ∈ TT := TT_in (List.mem_append_right _ (List.mem_of_getElem? (i := 36) (by decide +kernel))) rfl
theorem t_38 : (Cond.lays "LayeredPage$Octets" "LayeredPage$Octets" "count" "I") ∈ TT := TT_in (List.mem_append_right _ (List.mem_of_getElem? (i := 38) (by decide +kernel))) rfl
theorem t_41 : (Cond.arrayClass FieldType.int) ∈ TT := TT_in (List.mem_append_right _ (List.mem_of_getElem? (i := 41) (by decide +kernel))) rfl
theorem t_42 : (Cond.classLink "LayeredPage" (16 : Nat) "LayeredPage$DocumentWriter") ∈ TT := TT_in (List.mem_append_right _ (List.mem_of_getElem? (i := 42) (by decide +kernel))) rfl
theorem t_43 : (Cond.instantiable "LayeredPage$DocumentWriter" (1 : Nat)) ∈ TT := TT_in (List.mem_append_right _ (List.mem_of_getElem? (i := 43) (by decide +kernel))) rfl
theorem q_44 : (Cond.methodLinkNest "LayeredPage" (18 : Nat) ({ cls := "LayeredPage$DocumentWriter", name := "<init>", desc := "()V" } : MethodName) "LayeredPage") ∈ lw_tbl := List.mem_append_right _ (List.mem_of_getElem? (i := 44) (by decide +kernel))
theorem t_45 : (Cond.instanceMethod ({ cls := "LayeredPage$DocumentWriter", name := "<init>", desc := "()V" } : MethodName)) ∈ TT := TT_in (List.mem_append_right _ (List.mem_of_getElem? (i := 45) (by decide +kernel))) rfl
set_option maxRecDepth 100000 in
theorem t_46 : (Cond.code ({ cls := "LayeredPage$DocumentWriter", name := "<init>", desc := "()V" } : MethodName) prog_6_method_1_code (1 : Nat) (Option.none : Option FieldType)) ∈ TT := TT_in (List.mem_append_right _ (List.mem_of_getElem? (i := 46) (rfl))) rfl
theorem t_47 : (Cond.methodLink "LayeredPage$DocumentWriter" (3 : Nat) ({ cls := "java/lang/Object", name := "<init>", desc := "()V" } : MethodName)) ∈ TT := TT_in (List.mem_append_right _ (List.mem_of_getElem? (i := 47) (by decide +kernel))) rfl
theorem t_48 : (Cond.classLink "LayeredPage$DocumentWriter" (9 : Nat) "LayeredPage$CodeWriter") ∈ TT := TT_in (List.mem_append_right _ (List.mem_of_getElem? (i := 48) (by decide +kernel))) rfl
theorem t_49 : (Cond.instantiable "LayeredPage$CodeWriter" (6 : Nat)) ∈ TT := TT_in (List.mem_append_right _ (List.mem_of_getElem? (i := 49) (by decide +kernel))) rfl
theorem q_50 : (Cond.methodLinkNest "LayeredPage$DocumentWriter" (11 : Nat) ({ cls := "LayeredPage$CodeWriter", name := "<init>", desc := "()V" } : MethodName) "LayeredPage") ∈ lw_tbl := List.mem_append_right _ (List.mem_of_getElem? (i := 50) (by decide +kernel))
theorem t_51 : (Cond.instanceMethod ({ cls := "LayeredPage$CodeWriter", name := "<init>", desc := "()V" } : MethodName)) ∈ TT := TT_in (List.mem_append_right _ (List.mem_of_getElem? (i := 51) (by decide +kernel))) rfl
set_option maxRecDepth 100000 in
theorem t_52 : (Cond.code ({ cls := "LayeredPage$CodeWriter", name := "<init>", desc := "()V" } : MethodName) prog_3_method_1_code (1 : Nat) (Option.none : Option FieldType)) ∈ TT := TT_in (List.mem_append_right _ (List.mem_of_getElem? (i := 52) (rfl))) rfl
theorem t_53 : (Cond.methodLink "LayeredPage$CodeWriter" (1 : Nat) ({ cls := "LayeredPage$Coder", name := "<init>", desc := "()V" } : MethodName)) ∈ TT := TT_in (List.mem_append_right _ (List.mem_of_getElem? (i := 53) (by decide +kernel))) rfl
theorem t_54 : (Cond.instanceMethod ({ cls := "LayeredPage$Coder", name := "<init>", desc := "()V" } : MethodName)) ∈ TT := TT_in (List.mem_append_right _ (List.mem_of_getElem? (i := 54) (by decide +kernel))) rfl
set_option maxRecDepth 100000 in
theorem t_55 : (Cond.code ({ cls := "LayeredPage$Coder", name := "<init>", desc := "()V" } : MethodName) prog_4_method_1_code (1 : Nat) (Option.none : Option FieldType)) ∈ TT := TT_in (List.mem_append_right _ (List.mem_of_getElem? (i := 55) (rfl))) rfl
theorem t_56 : (Cond.methodLink "LayeredPage$Coder" (1 : Nat) ({ cls := "java/lang/Object", name := "<init>", desc := "()V" } : MethodName)) ∈ TT := TT_in (List.mem_append_right _ (List.mem_of_getElem? (i := 56) (by decide +kernel))) rfl
theorem t_57 : (Cond.constant "LayeredPage$Coder" (16 : Nat) (65536 : Int32)) ∈ TT := TT_in (List.mem_append_right _ (List.mem_of_getElem? (i := 57) (by decide +kernel))) rfl
theorem t_58 : (Cond.methodLink "LayeredPage$Coder" (21 : Nat) ({ cls := "LayeredPage$Coder", name := "restart", desc := "()V" } : MethodName)) ∈ TT := TT_in (List.mem_append_right _ (List.mem_of_getElem? (i := 58) (by decide +kernel))) rfl
theorem t_59 : (Cond.instanceMethod ({ cls := "LayeredPage$Coder", name := "restart", desc := "()V" } : MethodName)) ∈ TT := TT_in (List.mem_append_right _ (List.mem_of_getElem? (i := 59) (by decide +kernel))) rfl
theorem t_60 : (Cond.sameMethod "LayeredPage$Coder" "LayeredPage$Coder" "restart" "()V") ∈ TT := TT_in (List.mem_append_right _ (List.mem_of_getElem? (i := 60) (by decide +kernel))) rfl
theorem t_61 : (Cond.selects "LayeredPage$CodeReader" ({ cls := "LayeredPage$Coder", name := "restart", desc := "()V" } : MethodName) ({ cls := "LayeredPage$Coder", name := "restart", desc := "()V" } : MethodName)) ∈ TT := TT_in (List.mem_append_right _ (List.mem_of_getElem? (i := 61) (by decide +kernel))) rfl
theorem t_62 : (Cond.selects "LayeredPage$CodeWriter" ({ cls := "LayeredPage$Coder", name := "restart", desc := "()V" } : MethodName) ({ cls := "LayeredPage$Coder", name := "restart", desc := "()V" } : MethodName)) ∈ TT := TT_in (List.mem_append_right _ (List.mem_of_getElem? (i := 62) (by decide +kernel))) rfl
set_option maxRecDepth 100000 in
theorem t_63 : (Cond.code ({ cls := "LayeredPage$Coder", name := "restart", desc := "()V" } : MethodName) prog_4_method_4_code (1 : Nat) (Option.none : Option FieldType)) ∈ TT := TT_in (List.mem_append_right _ (List.mem_of_getElem? (i := 63) (rfl))) rfl
theorem t_64 : (Cond.methodLink "LayeredPage$Coder" (24 : Nat) ({ cls := "java/util/Arrays", name := "fill", desc := "([II)V" } : MethodName)) ∈ TT := TT_in (List.mem_append_right _ (List.mem_of_getElem? (i := 64) (by decide +kernel))) rfl
theorem t_65 : (Cond.static ({ cls := "java/util/Arrays", name := "fill", desc := "([II)V" } : MethodName)) ∈ TT := TT_in (List.mem_append_right _ (List.mem_of_getElem? (i := 65) (by decide +kernel))) rfl
set_option maxRecDepth 100000 in
theorem t_66 : (Cond.code ({ cls := "java/util/Arrays", name := "fill", desc := "([II)V" } : MethodName) prog_15_method_103_code (4 : Nat) (Option.none : Option FieldType)) ∈ TT := TT_in (List.mem_append_right _ (List.mem_of_getElem? (i := 66) (rfl))) rfl
theorem t_67 : (Cond.fieldLink "LayeredPage$CodeWriter" (7 : Nat) "LayeredPage$CodeWriter" "row" "[I") ∈ TT := TT_in (List.mem_append_right _ (List.mem_of_getElem? (i := 67) (by decide +kernel))) rfl
theorem t_68 : (Cond.fieldLink "LayeredPage$CodeWriter" (13 : Nat) "LayeredPage$CodeWriter" "start" "I") ∈ TT := TT_in (List.mem_append_right _ (List.mem_of_getElem? (i := 68) (by decide +kernel))) rfl
theorem t_69 : (Cond.fieldLink "LayeredPage$CodeWriter" (17 : Nat) "LayeredPage$CodeWriter" "scale" "I") ∈ TT := TT_in (List.mem_append_right _ (List.mem_of_getElem? (i := 69) (by decide +kernel))) rfl
theorem t_70 : (Cond.fieldLink "LayeredPage$Coder" (9 : Nat) "LayeredPage$Coder" "zeros" "[I") ∈ TT := TT_in (List.mem_append_right _ (List.mem_of_getElem? (i := 70) (by decide +kernel))) rfl
theorem t_71 : (Cond.fieldLink "LayeredPage$Coder" (13 : Nat) "LayeredPage$Coder" "ones" "[I") ∈ TT := TT_in (List.mem_append_right _ (List.mem_of_getElem? (i := 71) (by decide +kernel))) rfl
theorem t_72 : (Cond.fieldLink "LayeredPage$Coder" (17 : Nat) "LayeredPage$Coder" "width" "I") ∈ TT := TT_in (List.mem_append_right _ (List.mem_of_getElem? (i := 72) (by decide +kernel))) rfl
theorem t_73 : (Cond.lays "LayeredPage$CodeWriter" "LayeredPage$CodeWriter" "row" "[I") ∈ TT := TT_in (List.mem_append_right _ (List.mem_of_getElem? (i := 73) (by decide +kernel))) rfl
theorem t_75 : (Cond.lays "LayeredPage$CodeWriter" "LayeredPage$CodeWriter" "start" "I") ∈ TT := TT_in (List.mem_append_right _ (List.mem_of_getElem? (i := 75) (by decide +kernel))) rfl
theorem t_77 : (Cond.lays "LayeredPage$CodeWriter" "LayeredPage$CodeWriter" "scale" "I") ∈ TT := TT_in (List.mem_append_right _ (List.mem_of_getElem? (i := 77) (by decide +kernel))) rfl
theorem t_79 : (Cond.laysFinal "LayeredPage$CodeWriter" "LayeredPage$Coder" "zeros" "[I") ∈ TT := TT_in (List.mem_append_right _ (List.mem_of_getElem? (i := 79) (by decide +kernel))) rfl
theorem t_81 : (Cond.laysFinal "LayeredPage$CodeWriter" "LayeredPage$Coder" "ones" "[I") ∈ TT := TT_in (List.mem_append_right _ (List.mem_of_getElem? (i := 81) (by decide +kernel))) rfl
theorem t_83 : (Cond.lays "LayeredPage$CodeWriter" "LayeredPage$Coder" "width" "I") ∈ TT := TT_in (List.mem_append_right _ (List.mem_of_getElem? (i := 83) (by decide +kernel))) rfl
theorem t_86 : (Cond.fieldLink "LayeredPage$DocumentWriter" (12 : Nat) "LayeredPage$DocumentWriter" "coder" "LLayeredPage$CodeWriter;") ∈ TT := TT_in (List.mem_append_right _ (List.mem_of_getElem? (i := 86) (by decide +kernel))) rfl
theorem t_87 : (Cond.laysFinal "LayeredPage$DocumentWriter" "LayeredPage$DocumentWriter" "coder" "LLayeredPage$CodeWriter;") ∈ TT := TT_in (List.mem_append_right _ (List.mem_of_getElem? (i := 87) (by decide +kernel))) rfl
theorem t_90 : (Cond.classLink "LayeredPage" (23 : Nat) "LayeredPage$DocumentReader") ∈ TT := TT_in (List.mem_append_right _ (List.mem_of_getElem? (i := 90) (by decide +kernel))) rfl
theorem t_91 : (Cond.instantiable "LayeredPage$DocumentReader" (1 : Nat)) ∈ TT := TT_in (List.mem_append_right _ (List.mem_of_getElem? (i := 91) (by decide +kernel))) rfl
theorem q_92 : (Cond.methodLinkNest "LayeredPage" (25 : Nat) ({ cls := "LayeredPage$DocumentReader", name := "<init>", desc := "()V" } : MethodName) "LayeredPage") ∈ lw_tbl := List.mem_append_right _ (List.mem_of_getElem? (i := 92) (by decide +kernel))
theorem t_93 : (Cond.instanceMethod ({ cls := "LayeredPage$DocumentReader", name := "<init>", desc := "()V" } : MethodName)) ∈ TT := TT_in (List.mem_append_right _ (List.mem_of_getElem? (i := 93) (by decide +kernel))) rfl
set_option maxRecDepth 100000 in
theorem t_94 : (Cond.code ({ cls := "LayeredPage$DocumentReader", name := "<init>", desc := "()V" } : MethodName) prog_5_method_1_code (1 : Nat) (Option.none : Option FieldType)) ∈ TT := TT_in (List.mem_append_right _ (List.mem_of_getElem? (i := 94) (rfl))) rfl
theorem t_95 : (Cond.methodLink "LayeredPage$DocumentReader" (3 : Nat) ({ cls := "java/lang/Object", name := "<init>", desc := "()V" } : MethodName)) ∈ TT := TT_in (List.mem_append_right _ (List.mem_of_getElem? (i := 95) (by decide +kernel))) rfl
theorem t_96 : (Cond.classLink "LayeredPage$DocumentReader" (9 : Nat) "LayeredPage$CodeReader") ∈ TT := TT_in (List.mem_append_right _ (List.mem_of_getElem? (i := 96) (by decide +kernel))) rfl
theorem t_97 : (Cond.instantiable "LayeredPage$CodeReader" (8 : Nat)) ∈ TT := TT_in (List.mem_append_right _ (List.mem_of_getElem? (i := 97) (by decide +kernel))) rfl
theorem q_98 : (Cond.methodLinkNest "LayeredPage$DocumentReader" (11 : Nat) ({ cls := "LayeredPage$CodeReader", name := "<init>", desc := "()V" } : MethodName) "LayeredPage") ∈ lw_tbl := List.mem_append_right _ (List.mem_of_getElem? (i := 98) (by decide +kernel))
theorem t_99 : (Cond.instanceMethod ({ cls := "LayeredPage$CodeReader", name := "<init>", desc := "()V" } : MethodName)) ∈ TT := TT_in (List.mem_append_right _ (List.mem_of_getElem? (i := 99) (by decide +kernel))) rfl
set_option maxRecDepth 100000 in
theorem t_100 : (Cond.code ({ cls := "LayeredPage$CodeReader", name := "<init>", desc := "()V" } : MethodName) prog_2_method_1_code (1 : Nat) (Option.none : Option FieldType)) ∈ TT := TT_in (List.mem_append_right _ (List.mem_of_getElem? (i := 100) (rfl))) rfl
theorem t_101 : (Cond.methodLink "LayeredPage$CodeReader" (1 : Nat) ({ cls := "LayeredPage$Coder", name := "<init>", desc := "()V" } : MethodName)) ∈ TT := TT_in (List.mem_append_right _ (List.mem_of_getElem? (i := 101) (by decide +kernel))) rfl
theorem t_102 : (Cond.fieldLink "LayeredPage$CodeReader" (7 : Nat) "LayeredPage$CodeReader" "row" "[I") ∈ TT := TT_in (List.mem_append_right _ (List.mem_of_getElem? (i := 102) (by decide +kernel))) rfl
theorem t_103 : (Cond.fieldLink "LayeredPage$CodeReader" (13 : Nat) "LayeredPage$CodeReader" "at" "I") ∈ TT := TT_in (List.mem_append_right _ (List.mem_of_getElem? (i := 103) (by decide +kernel))) rfl
theorem t_104 : (Cond.fieldLink "LayeredPage$CodeReader" (17 : Nat) "LayeredPage$CodeReader" "end" "I") ∈ TT := TT_in (List.mem_append_right _ (List.mem_of_getElem? (i := 104) (by decide +kernel))) rfl
theorem t_105 : (Cond.fieldLink "LayeredPage$CodeReader" (20 : Nat) "LayeredPage$CodeReader" "digit" "I") ∈ TT := TT_in (List.mem_append_right _ (List.mem_of_getElem? (i := 105) (by decide +kernel))) rfl
theorem t_106 : (Cond.fieldLink "LayeredPage$CodeReader" (23 : Nat) "LayeredPage$CodeReader" "rest" "I") ∈ TT := TT_in (List.mem_append_right _ (List.mem_of_getElem? (i := 106) (by decide +kernel))) rfl
theorem t_107 : (Cond.lays "LayeredPage$CodeReader" "LayeredPage$CodeReader" "row" "[I") ∈ TT := TT_in (List.mem_append_right _ (List.mem_of_getElem? (i := 107) (by decide +kernel))) rfl
theorem t_109 : (Cond.lays "LayeredPage$CodeReader" "LayeredPage$CodeReader" "at" "I") ∈ TT := TT_in (List.mem_append_right _ (List.mem_of_getElem? (i := 109) (by decide +kernel))) rfl
theorem t_111 : (Cond.lays "LayeredPage$CodeReader" "LayeredPage$CodeReader" "end" "I") ∈ TT := TT_in (List.mem_append_right _ (List.mem_of_getElem? (i := 111) (by decide +kernel))) rfl
theorem t_113 : (Cond.lays "LayeredPage$CodeReader" "LayeredPage$CodeReader" "digit" "I") ∈ TT := TT_in (List.mem_append_right _ (List.mem_of_getElem? (i := 113) (by decide +kernel))) rfl
theorem t_115 : (Cond.lays "LayeredPage$CodeReader" "LayeredPage$CodeReader" "rest" "I") ∈ TT := TT_in (List.mem_append_right _ (List.mem_of_getElem? (i := 115) (by decide +kernel))) rfl
theorem t_117 : (Cond.laysFinal "LayeredPage$CodeReader" "LayeredPage$Coder" "zeros" "[I") ∈ TT := TT_in (List.mem_append_right _ (List.mem_of_getElem? (i := 117) (by decide +kernel))) rfl
theorem t_118 : (Cond.laysFinal "LayeredPage$CodeReader" "LayeredPage$Coder" "ones" "[I") ∈ TT := TT_in (List.mem_append_right _ (List.mem_of_getElem? (i := 118) (by decide +kernel))) rfl
theorem t_119 : (Cond.lays "LayeredPage$CodeReader" "LayeredPage$Coder" "width" "I") ∈ TT := TT_in (List.mem_append_right _ (List.mem_of_getElem? (i := 119) (by decide +kernel))) rfl
theorem t_121 : (Cond.fieldLink "LayeredPage$DocumentReader" (12 : Nat) "LayeredPage$DocumentReader" "coder" "LLayeredPage$CodeReader;") ∈ TT := TT_in (List.mem_append_right _ (List.mem_of_getElem? (i := 121) (by decide +kernel))) rfl
theorem t_122 : (Cond.laysFinal "LayeredPage$DocumentReader" "LayeredPage$DocumentReader" "coder" "LLayeredPage$CodeReader;") ∈ TT := TT_in (List.mem_append_right _ (List.mem_of_getElem? (i := 122) (by decide +kernel))) rfl
theorem t_125 : (Cond.classLink "LayeredPage" (30 : Nat) "LayeredPage$Page") ∈ TT := TT_in (List.mem_append_right _ (List.mem_of_getElem? (i := 125) (by decide +kernel))) rfl
theorem t_126 : (Cond.instantiable "LayeredPage$Page" (7 : Nat)) ∈ TT := TT_in (List.mem_append_right _ (List.mem_of_getElem? (i := 126) (by decide +kernel))) rfl
theorem t_127 : (Cond.methodLink "LayeredPage" (32 : Nat) ({ cls := "LayeredPage$Page", name := "<init>", desc := "()V" } : MethodName)) ∈ TT := TT_in (List.mem_append_right _ (List.mem_of_getElem? (i := 127) (by decide +kernel))) rfl
theorem t_128 : (Cond.instanceMethod ({ cls := "LayeredPage$Page", name := "<init>", desc := "()V" } : MethodName)) ∈ TT := TT_in (List.mem_append_right _ (List.mem_of_getElem? (i := 128) (by decide +kernel))) rfl
set_option maxRecDepth 100000 in
theorem t_129 : (Cond.code ({ cls := "LayeredPage$Page", name := "<init>", desc := "()V" } : MethodName) prog_9_method_1_code (2 : Nat) (Option.none : Option FieldType)) ∈ TT := TT_in (List.mem_append_right _ (List.mem_of_getElem? (i := 129) (rfl))) rfl
theorem t_130 : (Cond.methodLink "LayeredPage$Page" (3 : Nat) ({ cls := "java/lang/Object", name := "<init>", desc := "()V" } : MethodName)) ∈ TT := TT_in (List.mem_append_right _ (List.mem_of_getElem? (i := 130) (by decide +kernel))) rfl
theorem t_131 : (Cond.classLink "LayeredPage$Page" (9 : Nat) "LayeredPage$Shape") ∈ TT := TT_in (List.mem_append_right _ (List.mem_of_getElem? (i := 131) (by decide +kernel))) rfl
theorem q_132 : (Cond.arrayOver (FieldType.object "LayeredPage$Shape")) ∈ lw_tbl := List.mem_append_right _ (List.mem_of_getElem? (i := 132) (by decide +kernel))
theorem t_133 : (Cond.classLink "LayeredPage$Page" (31 : Nat) "LayeredPage$Layer") ∈ TT := TT_in (List.mem_append_right _ (List.mem_of_getElem? (i := 133) (by decide +kernel))) rfl
theorem t_134 : (Cond.instantiable "LayeredPage$Layer" (6 : Nat)) ∈ TT := TT_in (List.mem_append_right _ (List.mem_of_getElem? (i := 134) (by decide +kernel))) rfl
theorem t_135 : (Cond.methodLink "LayeredPage$Page" (33 : Nat) ({ cls := "LayeredPage$Layer", name := "<init>", desc := "(I)V" } : MethodName)) ∈ TT := TT_in (List.mem_append_right _ (List.mem_of_getElem? (i := 135) (by decide +kernel))) rfl
theorem t_136 : (Cond.instanceMethod ({ cls := "LayeredPage$Layer", name := "<init>", desc := "(I)V" } : MethodName)) ∈ TT := TT_in (List.mem_append_right _ (List.mem_of_getElem? (i := 136) (by decide +kernel))) rfl
set_option maxRecDepth 100000 in
theorem t_137 : (Cond.code ({ cls := "LayeredPage$Layer", name := "<init>", desc := "(I)V" } : MethodName) prog_7_method_1_code (2 : Nat) (Option.none : Option FieldType)) ∈ TT := TT_in (List.mem_append_right _ (List.mem_of_getElem? (i := 137) (rfl))) rfl
theorem t_138 : (Cond.methodLink "LayeredPage$Layer" (3 : Nat) ({ cls := "java/lang/Object", name := "<init>", desc := "()V" } : MethodName)) ∈ TT := TT_in (List.mem_append_right _ (List.mem_of_getElem? (i := 138) (by decide +kernel))) rfl
theorem t_139 : (Cond.fieldLink "LayeredPage$Layer" (15 : Nat) "LayeredPage$Layer" "size" "I") ∈ TT := TT_in (List.mem_append_right _ (List.mem_of_getElem? (i := 139) (by decide +kernel))) rfl
theorem t_140 : (Cond.fieldLink "LayeredPage" (83 : Nat) "LayeredPage$Layer" "size" "I") ∈ TT := TT_in (List.mem_append_right _ (List.mem_of_getElem? (i := 140) (by decide +kernel))) rfl
theorem t_141 : (Cond.fieldLink "LayeredPage$Layer" (19 : Nat) "LayeredPage$Layer" "cells" "[I") ∈ TT := TT_in (List.mem_append_right _ (List.mem_of_getElem? (i := 141) (by decide +kernel))) rfl
theorem t_142 : (Cond.fieldLink "LayeredPage$Layer" (23 : Nat) "LayeredPage$Layer" "coefficients" "[I") ∈ TT := TT_in (List.mem_append_right _ (List.mem_of_getElem? (i := 142) (by decide +kernel))) rfl
theorem t_143 : (Cond.fieldLink "LayeredPage$Layer" (26 : Nat) "LayeredPage$Layer" "coded" "[I") ∈ TT := TT_in (List.mem_append_right _ (List.mem_of_getElem? (i := 143) (by decide +kernel))) rfl
theorem t_144 : (Cond.fieldLink "LayeredPage$Layer" (29 : Nat) "LayeredPage$Layer" "line" "[I") ∈ TT := TT_in (List.mem_append_right _ (List.mem_of_getElem? (i := 144) (by decide +kernel))) rfl
theorem t_145 : (Cond.fieldLink "LayeredPage$Layer" (9 : Nat) "LayeredPage$Layer" "came" "Z") ∈ TT := TT_in (List.mem_append_right _ (List.mem_of_getElem? (i := 145) (by decide +kernel))) rfl
theorem t_146 : (Cond.fieldLink "LayeredPage$DocumentReader" (87 : Nat) "LayeredPage$Layer" "came" "Z") ∈ TT := TT_in (List.mem_append_right _ (List.mem_of_getElem? (i := 146) (by decide +kernel))) rfl
theorem t_147 : (Cond.laysFinal "LayeredPage$Layer" "LayeredPage$Layer" "size" "I") ∈ TT := TT_in (List.mem_append_right _ (List.mem_of_getElem? (i := 147) (by decide +kernel))) rfl
theorem t_149 : (Cond.laysFinal "LayeredPage$Layer" "LayeredPage$Layer" "cells" "[I") ∈ TT := TT_in (List.mem_append_right _ (List.mem_of_getElem? (i := 149) (by decide +kernel))) rfl
theorem t_151 : (Cond.laysFinal "LayeredPage$Layer" "LayeredPage$Layer" "coefficients" "[I") ∈ TT := TT_in (List.mem_append_right _ (List.mem_of_getElem? (i := 151) (by decide +kernel))) rfl
theorem t_153 : (Cond.laysFinal "LayeredPage$Layer" "LayeredPage$Layer" "coded" "[I") ∈ TT := TT_in (List.mem_append_right _ (List.mem_of_getElem? (i := 153) (by decide +kernel))) rfl
theorem t_155 : (Cond.laysFinal "LayeredPage$Layer" "LayeredPage$Layer" "line" "[I") ∈ TT := TT_in (List.mem_append_right _ (List.mem_of_getElem? (i := 155) (by decide +kernel))) rfl
theorem t_157 : (Cond.lays "LayeredPage$Layer" "LayeredPage$Layer" "came" "Z") ∈ TT := TT_in (List.mem_append_right _ (List.mem_of_getElem? (i := 157) (by decide +kernel))) rfl
theorem t_160 : (Cond.instantiable "LayeredPage$Shape" (4 : Nat)) ∈ TT := TT_in (List.mem_append_right _ (List.mem_of_getElem? (i := 160) (by decide +kernel))) rfl
theorem q_161 : (Cond.methodLinkNest "LayeredPage$Page" (43 : Nat) ({ cls := "LayeredPage$Shape", name := "<init>", desc := "()V" } : MethodName) "LayeredPage") ∈ lw_tbl := List.mem_append_right _ (List.mem_of_getElem? (i := 161) (by decide +kernel))
theorem t_162 : (Cond.instanceMethod ({ cls := "LayeredPage$Shape", name := "<init>", desc := "()V" } : MethodName)) ∈ TT := TT_in (List.mem_append_right _ (List.mem_of_getElem? (i := 162) (by decide +kernel))) rfl
set_option maxRecDepth 100000 in
theorem t_163 : (Cond.code ({ cls := "LayeredPage$Shape", name := "<init>", desc := "()V" } : MethodName) prog_10_method_1_code (1 : Nat) (Option.none : Option FieldType)) ∈ TT := TT_in (List.mem_append_right _ (List.mem_of_getElem? (i := 163) (rfl))) rfl
theorem t_164 : (Cond.methodLink "LayeredPage$Shape" (3 : Nat) ({ cls := "java/lang/Object", name := "<init>", desc := "()V" } : MethodName)) ∈ TT := TT_in (List.mem_append_right _ (List.mem_of_getElem? (i := 164) (by decide +kernel))) rfl
theorem t_165 : (Cond.fieldLink "LayeredPage$Shape" (9 : Nat) "LayeredPage$Shape" "bits" "J") ∈ TT := TT_in (List.mem_append_right _ (List.mem_of_getElem? (i := 165) (by decide +kernel))) rfl
theorem t_166 : (Cond.fieldLink "LayeredPage$Page" (47 : Nat) "LayeredPage$Shape" "bits" "J") ∈ TT := TT_in (List.mem_append_right _ (List.mem_of_getElem? (i := 166) (by decide +kernel))) rfl
theorem t_167 : (Cond.fieldLink "LayeredPage" (143 : Nat) "LayeredPage$Shape" "bits" "J") ∈ TT := TT_in (List.mem_append_right _ (List.mem_of_getElem? (i := 167) (by decide +kernel))) rfl
theorem t_168 : (Cond.fieldLink "LayeredPage$Shape" (15 : Nat) "LayeredPage$Shape" "width" "I") ∈ TT := TT_in (List.mem_append_right _ (List.mem_of_getElem? (i := 168) (by decide +kernel))) rfl
theorem t_169 : (Cond.fieldLink "LayeredPage$DocumentWriter" (65 : Nat) "LayeredPage$Shape" "width" "I") ∈ TT := TT_in (List.mem_append_right _ (List.mem_of_getElem? (i := 169) (by decide +kernel))) rfl
theorem t_170 : (Cond.fieldLink "LayeredPage$Page" (51 : Nat) "LayeredPage$Shape" "width" "I") ∈ TT := TT_in (List.mem_append_right _ (List.mem_of_getElem? (i := 170) (by decide +kernel))) rfl
theorem t_171 : (Cond.fieldLink "LayeredPage$Shape" (19 : Nat) "LayeredPage$Shape" "height" "I") ∈ TT := TT_in (List.mem_append_right _ (List.mem_of_getElem? (i := 171) (by decide +kernel))) rfl
theorem t_172 : (Cond.fieldLink "LayeredPage$DocumentWriter" (68 : Nat) "LayeredPage$Shape" "height" "I") ∈ TT := TT_in (List.mem_append_right _ (List.mem_of_getElem? (i := 172) (by decide +kernel))) rfl
theorem t_173 : (Cond.fieldLink "LayeredPage$Page" (54 : Nat) "LayeredPage$Shape" "height" "I") ∈ TT := TT_in (List.mem_append_right _ (List.mem_of_getElem? (i := 173) (by decide +kernel))) rfl
theorem t_174 : (Cond.fieldLink "LayeredPage$Shape" (22 : Nat) "LayeredPage$Shape" "base" "I") ∈ TT := TT_in (List.mem_append_right _ (List.mem_of_getElem? (i := 174) (by decide +kernel))) rfl
theorem t_175 : (Cond.fieldLink "LayeredPage$DocumentWriter" (60 : Nat) "LayeredPage$Shape" "base" "I") ∈ TT := TT_in (List.mem_append_right _ (List.mem_of_getElem? (i := 175) (by decide +kernel))) rfl
theorem t_176 : (Cond.fieldLink "LayeredPage$Page" (57 : Nat) "LayeredPage$Shape" "base" "I") ∈ TT := TT_in (List.mem_append_right _ (List.mem_of_getElem? (i := 176) (by decide +kernel))) rfl
theorem t_177 : (Cond.lays "LayeredPage$Shape" "LayeredPage$Shape" "bits" "J") ∈ TT := TT_in (List.mem_append_right _ (List.mem_of_getElem? (i := 177) (by decide +kernel))) rfl
theorem t_179 : (Cond.lays "LayeredPage$Shape" "LayeredPage$Shape" "width" "I") ∈ TT := TT_in (List.mem_append_right _ (List.mem_of_getElem? (i := 179) (by decide +kernel))) rfl
theorem t_181 : (Cond.lays "LayeredPage$Shape" "LayeredPage$Shape" "height" "I") ∈ TT := TT_in (List.mem_append_right _ (List.mem_of_getElem? (i := 181) (by decide +kernel))) rfl
theorem t_183 : (Cond.lays "LayeredPage$Shape" "LayeredPage$Shape" "base" "I") ∈ TT := TT_in (List.mem_append_right _ (List.mem_of_getElem? (i := 183) (by decide +kernel))) rfl
theorem t_186 : (Cond.fieldLink "LayeredPage$Page" (11 : Nat) "LayeredPage$Page" "shapes" "[LLayeredPage$Shape;") ∈ TT := TT_in (List.mem_append_right _ (List.mem_of_getElem? (i := 186) (by decide +kernel))) rfl
theorem t_187 : (Cond.fieldLink "LayeredPage$DocumentWriter" (52 : Nat) "LayeredPage$Page" "shapes" "[LLayeredPage$Shape;") ∈ TT := TT_in (List.mem_append_right _ (List.mem_of_getElem? (i := 187) (by decide +kernel))) rfl
theorem t_188 : (Cond.fieldLink "LayeredPage" (139 : Nat) "LayeredPage$Page" "shapes" "[LLayeredPage$Shape;") ∈ TT := TT_in (List.mem_append_right _ (List.mem_of_getElem? (i := 188) (by decide +kernel))) rfl
theorem t_189 : (Cond.fieldLink "LayeredPage$Page" (17 : Nat) "LayeredPage$Page" "shapeCount" "I") ∈ TT := TT_in (List.mem_append_right _ (List.mem_of_getElem? (i := 189) (by decide +kernel))) rfl
theorem t_190 : (Cond.fieldLink "LayeredPage$DocumentWriter" (27 : Nat) "LayeredPage$Page" "shapeCount" "I") ∈ TT := TT_in (List.mem_append_right _ (List.mem_of_getElem? (i := 190) (by decide +kernel))) rfl
theorem t_191 : (Cond.fieldLink "LayeredPage$DocumentReader" (54 : Nat) "LayeredPage$Page" "shapeCount" "I") ∈ TT := TT_in (List.mem_append_right _ (List.mem_of_getElem? (i := 191) (by decide +kernel))) rfl
theorem t_192 : (Cond.fieldLink "LayeredPage" (136 : Nat) "LayeredPage$Page" "shapeCount" "I") ∈ TT := TT_in (List.mem_append_right _ (List.mem_of_getElem? (i := 192) (by decide +kernel))) rfl
theorem t_193 : (Cond.fieldLink "LayeredPage$Page" (21 : Nat) "LayeredPage$Page" "placedShapes" "[I") ∈ TT := TT_in (List.mem_append_right _ (List.mem_of_getElem? (i := 193) (by decide +kernel))) rfl
theorem t_194 : (Cond.fieldLink "LayeredPage$DocumentWriter" (99 : Nat) "LayeredPage$Page" "placedShapes" "[I") ∈ TT := TT_in (List.mem_append_right _ (List.mem_of_getElem? (i := 194) (by decide +kernel))) rfl
theorem t_195 : (Cond.fieldLink "LayeredPage$Page" (25 : Nat) "LayeredPage$Page" "spots" "[I") ∈ TT := TT_in (List.mem_append_right _ (List.mem_of_getElem? (i := 195) (by decide +kernel))) rfl
theorem t_196 : (Cond.fieldLink "LayeredPage$DocumentWriter" (102 : Nat) "LayeredPage$Page" "spots" "[I") ∈ TT := TT_in (List.mem_append_right _ (List.mem_of_getElem? (i := 196) (by decide +kernel))) rfl
theorem t_197 : (Cond.fieldLink "LayeredPage$Page" (28 : Nat) "LayeredPage$Page" "placingCount" "I") ∈ TT := TT_in (List.mem_append_right _ (List.mem_of_getElem? (i := 197) (by decide +kernel))) rfl
theorem t_198 : (Cond.fieldLink "LayeredPage$DocumentWriter" (96 : Nat) "LayeredPage$Page" "placingCount" "I") ∈ TT := TT_in (List.mem_append_right _ (List.mem_of_getElem? (i := 198) (by decide +kernel))) rfl
theorem t_199 : (Cond.fieldLink "LayeredPage$DocumentReader" (77 : Nat) "LayeredPage$Page" "placingCount" "I") ∈ TT := TT_in (List.mem_append_right _ (List.mem_of_getElem? (i := 199) (by decide +kernel))) rfl
theorem t_200 : (Cond.fieldLink "LayeredPage" (149 : Nat) "LayeredPage$Page" "placingCount" "I") ∈ TT := TT_in (List.mem_append_right _ (List.mem_of_getElem? (i := 200) (by decide +kernel))) rfl
theorem t_201 : (Cond.fieldLink "LayeredPage$Page" (36 : Nat) "LayeredPage$Page" "ground" "LLayeredPage$Layer;") ∈ TT := TT_in (List.mem_append_right _ (List.mem_of_getElem? (i := 201) (by decide +kernel))) rfl
theorem t_202 : (Cond.fieldLink "LayeredPage$DocumentWriter" (41 : Nat) "LayeredPage$Page" "ground" "LLayeredPage$Layer;") ∈ TT := TT_in (List.mem_append_right _ (List.mem_of_getElem? (i := 202) (by decide +kernel))) rfl
theorem t_203 : (Cond.fieldLink "LayeredPage$DocumentReader" (43 : Nat) "LayeredPage$Page" "ground" "LLayeredPage$Layer;") ∈ TT := TT_in (List.mem_append_right _ (List.mem_of_getElem? (i := 203) (by decide +kernel))) rfl
theorem t_204 : (Cond.fieldLink "LayeredPage" (127 : Nat) "LayeredPage$Page" "ground" "LLayeredPage$Layer;") ∈ TT := TT_in (List.mem_append_right _ (List.mem_of_getElem? (i := 204) (by decide +kernel))) rfl
theorem t_205 : (Cond.fieldLink "LayeredPage$Page" (40 : Nat) "LayeredPage$Page" "ink" "LLayeredPage$Layer;") ∈ TT := TT_in (List.mem_append_right _ (List.mem_of_getElem? (i := 205) (by decide +kernel))) rfl
theorem t_206 : (Cond.fieldLink "LayeredPage$DocumentWriter" (49 : Nat) "LayeredPage$Page" "ink" "LLayeredPage$Layer;") ∈ TT := TT_in (List.mem_append_right _ (List.mem_of_getElem? (i := 206) (by decide +kernel))) rfl
theorem t_207 : (Cond.fieldLink "LayeredPage$DocumentReader" (47 : Nat) "LayeredPage$Page" "ink" "LLayeredPage$Layer;") ∈ TT := TT_in (List.mem_append_right _ (List.mem_of_getElem? (i := 207) (by decide +kernel))) rfl
theorem t_208 : (Cond.fieldLink "LayeredPage" (120 : Nat) "LayeredPage$Page" "ink" "LLayeredPage$Layer;") ∈ TT := TT_in (List.mem_append_right _ (List.mem_of_getElem? (i := 208) (by decide +kernel))) rfl
theorem t_209 : (Cond.laysFinal "LayeredPage$Page" "LayeredPage$Page" "shapes" "[LLayeredPage$Shape;") ∈ TT := TT_in (List.mem_append_right _ (List.mem_of_getElem? (i := 209) (by decide +kernel))) rfl
theorem t_211 : (Cond.lays "LayeredPage$Page" "LayeredPage$Page" "shapeCount" "I") ∈ TT := TT_in (List.mem_append_right _ (List.mem_of_getElem? (i := 211) (by decide +kernel))) rfl
theorem t_213 : (Cond.laysFinal "LayeredPage$Page" "LayeredPage$Page" "placedShapes" "[I") ∈ TT := TT_in (List.mem_append_right _ (List.mem_of_getElem? (i := 213) (by decide +kernel))) rfl
theorem t_215 : (Cond.laysFinal "LayeredPage$Page" "LayeredPage$Page" "spots" "[I") ∈ TT := TT_in (List.mem_append_right _ (List.mem_of_getElem? (i := 215) (by decide +kernel))) rfl
theorem t_217 : (Cond.lays "LayeredPage$Page" "LayeredPage$Page" "placingCount" "I") ∈ TT := TT_in (List.mem_append_right _ (List.mem_of_getElem? (i := 217) (by decide +kernel))) rfl
theorem t_219 : (Cond.laysFinal "LayeredPage$Page" "LayeredPage$Page" "ground" "LLayeredPage$Layer;") ∈ TT := TT_in (List.mem_append_right _ (List.mem_of_getElem? (i := 219) (by decide +kernel))) rfl
theorem t_221 : (Cond.laysFinal "LayeredPage$Page" "LayeredPage$Page" "ink" "LLayeredPage$Layer;") ∈ TT := TT_in (List.mem_append_right _ (List.mem_of_getElem? (i := 221) (by decide +kernel))) rfl
theorem t_224 : (Cond.fieldLink "LayeredPage" (12 : Nat) "LayeredPage" "document" "LLayeredPage$Octets;") ∈ TT := TT_in (List.mem_append_right _ (List.mem_of_getElem? (i := 224) (by decide +kernel))) rfl
theorem t_225 : (Cond.fieldLink "LayeredPage" (19 : Nat) "LayeredPage" "writer" "LLayeredPage$DocumentWriter;") ∈ TT := TT_in (List.mem_append_right _ (List.mem_of_getElem? (i := 225) (by decide +kernel))) rfl
theorem t_226 : (Cond.fieldLink "LayeredPage" (26 : Nat) "LayeredPage" "reader" "LLayeredPage$DocumentReader;") ∈ TT := TT_in (List.mem_append_right _ (List.mem_of_getElem? (i := 226) (by decide +kernel))) rfl
theorem t_227 : (Cond.fieldLink "LayeredPage" (33 : Nat) "LayeredPage" "draft" "LLayeredPage$Page;") ∈ TT := TT_in (List.mem_append_right _ (List.mem_of_getElem? (i := 227) (by decide +kernel))) rfl
theorem t_228 : (Cond.fieldLink "LayeredPage" (37 : Nat) "LayeredPage" "hasPicture" "Z") ∈ TT := TT_in (List.mem_append_right _ (List.mem_of_getElem? (i := 228) (by decide +kernel))) rfl
theorem t_229 : (Cond.fieldLink "LayeredPage" (41 : Nat) "LayeredPage" "picture" "LLayeredPage$Page;") ∈ TT := TT_in (List.mem_append_right _ (List.mem_of_getElem? (i := 229) (by decide +kernel))) rfl
theorem t_230 : (Cond.fieldLink "LayeredPage" (44 : Nat) "LayeredPage" "spare" "LLayeredPage$Page;") ∈ TT := TT_in (List.mem_append_right _ (List.mem_of_getElem? (i := 230) (by decide +kernel))) rfl
theorem t_231 : (Cond.laysFinal "LayeredPage" "LayeredPage" "document" "LLayeredPage$Octets;") ∈ TT := TT_in (List.mem_append_right _ (List.mem_of_getElem? (i := 231) (by decide +kernel))) rfl
theorem t_233 : (Cond.laysFinal "LayeredPage" "LayeredPage" "writer" "LLayeredPage$DocumentWriter;") ∈ TT := TT_in (List.mem_append_right _ (List.mem_of_getElem? (i := 233) (by decide +kernel))) rfl
theorem t_235 : (Cond.laysFinal "LayeredPage" "LayeredPage" "reader" "LLayeredPage$DocumentReader;") ∈ TT := TT_in (List.mem_append_right _ (List.mem_of_getElem? (i := 235) (by decide +kernel))) rfl
theorem t_237 : (Cond.laysFinal "LayeredPage" "LayeredPage" "draft" "LLayeredPage$Page;") ∈ TT := TT_in (List.mem_append_right _ (List.mem_of_getElem? (i := 237) (by decide +kernel))) rfl
theorem t_239 : (Cond.lays "LayeredPage" "LayeredPage" "hasPicture" "Z") ∈ TT := TT_in (List.mem_append_right _ (List.mem_of_getElem? (i := 239) (by decide +kernel))) rfl
theorem t_241 : (Cond.lays "LayeredPage" "LayeredPage" "picture" "LLayeredPage$Page;") ∈ TT := TT_in (List.mem_append_right _ (List.mem_of_getElem? (i := 241) (by decide +kernel))) rfl
theorem t_243 : (Cond.lays "LayeredPage" "LayeredPage" "spare" "LLayeredPage$Page;") ∈ TT := TT_in (List.mem_append_right _ (List.mem_of_getElem? (i := 243) (by decide +kernel))) rfl
theorem t_246 : (Cond.methodLink "LayeredPageLaw" (15 : Nat) ({ cls := "LayeredPage", name := "shape", desc := "(JIII)I" } : MethodName)) ∈ TT := TT_in (List.mem_append_right _ (List.mem_of_getElem? (i := 246) (by decide +kernel))) rfl
theorem t_247 : (Cond.instanceMethod ({ cls := "LayeredPage", name := "shape", desc := "(JIII)I" } : MethodName)) ∈ TT := TT_in (List.mem_append_right _ (List.mem_of_getElem? (i := 247) (by decide +kernel))) rfl
theorem t_248 : (Cond.selects "LayeredPage" ({ cls := "LayeredPage", name := "shape", desc := "(JIII)I" } : MethodName) ({ cls := "LayeredPage", name := "shape", desc := "(JIII)I" } : MethodName)) ∈ TT := TT_in (List.mem_append_right _ (List.mem_of_getElem? (i := 248) (by decide +kernel))) rfl
set_option maxRecDepth 100000 in
theorem t_249 : (Cond.code ({ cls := "LayeredPage", name := "shape", desc := "(JIII)I" } : MethodName) prog_1_method_2_code (7 : Nat) (Option.some FieldType.int)) ∈ TT := TT_in (List.mem_append_right _ (List.mem_of_getElem? (i := 249) (rfl))) rfl
theorem t_250 : (Cond.methodLink "LayeredPage" (47 : Nat) ({ cls := "LayeredPage$Page", name := "hasShape", desc := "(I)Z" } : MethodName)) ∈ TT := TT_in (List.mem_append_right _ (List.mem_of_getElem? (i := 250) (by decide +kernel))) rfl
theorem t_251 : (Cond.instanceMethod ({ cls := "LayeredPage$Page", name := "hasShape", desc := "(I)Z" } : MethodName)) ∈ TT := TT_in (List.mem_append_right _ (List.mem_of_getElem? (i := 251) (by decide +kernel))) rfl
theorem t_252 : (Cond.selects "LayeredPage$Page" ({ cls := "LayeredPage$Page", name := "hasShape", desc := "(I)Z" } : MethodName) ({ cls := "LayeredPage$Page", name := "hasShape", desc := "(I)Z" } : MethodName)) ∈ TT := TT_in (List.mem_append_right _ (List.mem_of_getElem? (i := 252) (by decide +kernel))) rfl
set_option maxRecDepth 100000 in
theorem t_253 : (Cond.code ({ cls := "LayeredPage$Page", name := "hasShape", desc := "(I)Z" } : MethodName) prog_9_method_3_code (2 : Nat) (Option.some FieldType.boolean)) ∈ TT := TT_in (List.mem_append_right _ (List.mem_of_getElem? (i := 253) (rfl))) rfl
theorem t_254 : (Cond.methodLink "LayeredPage" (51 : Nat) ({ cls := "LayeredPage", name := "isShapeSide", desc := "(I)Z" } : MethodName)) ∈ TT := TT_in (List.mem_append_right _ (List.mem_of_getElem? (i := 254) (by decide +kernel))) rfl
theorem t_255 : (Cond.static ({ cls := "LayeredPage", name := "isShapeSide", desc := "(I)Z" } : MethodName)) ∈ TT := TT_in (List.mem_append_right _ (List.mem_of_getElem? (i := 255) (by decide +kernel))) rfl
set_option maxRecDepth 100000 in
theorem t_256 : (Cond.code ({ cls := "LayeredPage", name := "isShapeSide", desc := "(I)Z" } : MethodName) prog_1_method_21_code (1 : Nat) (Option.some FieldType.boolean)) ∈ TT := TT_in (List.mem_append_right _ (List.mem_of_getElem? (i := 256) (rfl))) rfl
theorem t_257 : (Cond.methodLink "LayeredPage" (54 : Nat) ({ cls := "LayeredPage", name := "shapeMask", desc := "(II)J" } : MethodName)) ∈ TT := TT_in (List.mem_append_right _ (List.mem_of_getElem? (i := 257) (by decide +kernel))) rfl
theorem t_258 : (Cond.static ({ cls := "LayeredPage", name := "shapeMask", desc := "(II)J" } : MethodName)) ∈ TT := TT_in (List.mem_append_right _ (List.mem_of_getElem? (i := 258) (by decide +kernel))) rfl
set_option maxRecDepth 100000 in
theorem t_259 : (Cond.code ({ cls := "LayeredPage", name := "shapeMask", desc := "(II)J" } : MethodName) prog_1_method_22_code (7 : Nat) (Option.some FieldType.long)) ∈ TT := TT_in (List.mem_append_right _ (List.mem_of_getElem? (i := 259) (rfl))) rfl
theorem t_260 : (Cond.constantLong "LayeredPage" (58 : Nat) (-1 : Int64)) ∈ TT := TT_in (List.mem_append_right _ (List.mem_of_getElem? (i := 260) (by decide +kernel))) rfl
theorem t_261 : (Cond.methodLink "LayeredPage" (60 : Nat) ({ cls := "LayeredPage$Page", name := "addShape", desc := "(JIII)I" } : MethodName)) ∈ TT := TT_in (List.mem_append_right _ (List.mem_of_getElem? (i := 261) (by decide +kernel))) rfl
theorem t_262 : (Cond.instanceMethod ({ cls := "LayeredPage$Page", name := "addShape", desc := "(JIII)I" } : MethodName)) ∈ TT := TT_in (List.mem_append_right _ (List.mem_of_getElem? (i := 262) (by decide +kernel))) rfl
theorem t_263 : (Cond.selects "LayeredPage$Page" ({ cls := "LayeredPage$Page", name := "addShape", desc := "(JIII)I" } : MethodName) ({ cls := "LayeredPage$Page", name := "addShape", desc := "(JIII)I" } : MethodName)) ∈ TT := TT_in (List.mem_append_right _ (List.mem_of_getElem? (i := 263) (by decide +kernel))) rfl
set_option maxRecDepth 100000 in
theorem t_264 : (Cond.code ({ cls := "LayeredPage$Page", name := "addShape", desc := "(JIII)I" } : MethodName) prog_9_method_5_code (7 : Nat) (Option.some FieldType.int)) ∈ TT := TT_in (List.mem_append_right _ (List.mem_of_getElem? (i := 264) (rfl))) rfl
theorem t_265 : (Cond.methodLink "LayeredPageLaw" (20 : Nat) ({ cls := "LayeredPage", name := "place", desc := "(III)I" } : MethodName)) ∈ TT := TT_in (List.mem_append_right _ (List.mem_of_getElem? (i := 265) (by decide +kernel))) rfl
theorem t_266 : (Cond.instanceMethod ({ cls := "LayeredPage", name := "place", desc := "(III)I" } : MethodName)) ∈ TT := TT_in (List.mem_append_right _ (List.mem_of_getElem? (i := 266) (by decide +kernel))) rfl
theorem t_267 : (Cond.selects "LayeredPage" ({ cls := "LayeredPage", name := "place", desc := "(III)I" } : MethodName) ({ cls := "LayeredPage", name := "place", desc := "(III)I" } : MethodName)) ∈ TT := TT_in (List.mem_append_right _ (List.mem_of_getElem? (i := 267) (by decide +kernel))) rfl
set_option maxRecDepth 100000 in
theorem t_268 : (Cond.code ({ cls := "LayeredPage", name := "place", desc := "(III)I" } : MethodName) prog_1_method_3_code (4 : Nat) (Option.some FieldType.int)) ∈ TT := TT_in (List.mem_append_right _ (List.mem_of_getElem? (i := 268) (rfl))) rfl
theorem t_269 : (Cond.methodLink "LayeredPage" (64 : Nat) ({ cls := "LayeredPage", name := "isOnPage", desc := "(II)Z" } : MethodName)) ∈ TT := TT_in (List.mem_append_right _ (List.mem_of_getElem? (i := 269) (by decide +kernel))) rfl
theorem t_270 : (Cond.static ({ cls := "LayeredPage", name := "isOnPage", desc := "(II)Z" } : MethodName)) ∈ TT := TT_in (List.mem_append_right _ (List.mem_of_getElem? (i := 270) (by decide +kernel))) rfl
set_option maxRecDepth 100000 in
theorem t_271 : (Cond.code ({ cls := "LayeredPage", name := "isOnPage", desc := "(II)Z" } : MethodName) prog_1_method_20_code (2 : Nat) (Option.some FieldType.boolean)) ∈ TT := TT_in (List.mem_append_right _ (List.mem_of_getElem? (i := 271) (rfl))) rfl
theorem t_272 : (Cond.methodLink "LayeredPage" (68 : Nat) ({ cls := "LayeredPage$Page", name := "addPlacing", desc := "(II)I" } : MethodName)) ∈ TT := TT_in (List.mem_append_right _ (List.mem_of_getElem? (i := 272) (by decide +kernel))) rfl
theorem t_273 : (Cond.instanceMethod ({ cls := "LayeredPage$Page", name := "addPlacing", desc := "(II)I" } : MethodName)) ∈ TT := TT_in (List.mem_append_right _ (List.mem_of_getElem? (i := 273) (by decide +kernel))) rfl
theorem t_274 : (Cond.selects "LayeredPage$Page" ({ cls := "LayeredPage$Page", name := "addPlacing", desc := "(II)I" } : MethodName) ({ cls := "LayeredPage$Page", name := "addPlacing", desc := "(II)I" } : MethodName)) ∈ TT := TT_in (List.mem_append_right _ (List.mem_of_getElem? (i := 274) (by decide +kernel))) rfl
set_option maxRecDepth 100000 in
theorem t_275 : (Cond.code ({ cls := "LayeredPage$Page", name := "addPlacing", desc := "(II)I" } : MethodName) prog_9_method_6_code (3 : Nat) (Option.some FieldType.int)) ∈ TT := TT_in (List.mem_append_right _ (List.mem_of_getElem? (i := 275) (rfl))) rfl
theorem t_276 : (Cond.methodLink "LayeredPageLaw" (25 : Nat) ({ cls := "LayeredPage", name := "paint", desc := "(IIJ)Z" } : MethodName)) ∈ TT := TT_in (List.mem_append_right _ (List.mem_of_getElem? (i := 276) (by decide +kernel))) rfl
theorem t_277 : (Cond.instanceMethod ({ cls := "LayeredPage", name := "paint", desc := "(IIJ)Z" } : MethodName)) ∈ TT := TT_in (List.mem_append_right _ (List.mem_of_getElem? (i := 277) (by decide +kernel))) rfl
theorem t_278 : (Cond.selects "LayeredPage" ({ cls := "LayeredPage", name := "paint", desc := "(IIJ)Z" } : MethodName) ({ cls := "LayeredPage", name := "paint", desc := "(IIJ)Z" } : MethodName)) ∈ TT := TT_in (List.mem_append_right _ (List.mem_of_getElem? (i := 278) (by decide +kernel))) rfl
set_option maxRecDepth 100000 in
theorem t_279 : (Cond.code ({ cls := "LayeredPage", name := "paint", desc := "(IIJ)Z" } : MethodName) prog_1_method_4_code (7 : Nat) (Option.some FieldType.boolean)) ∈ TT := TT_in (List.mem_append_right _ (List.mem_of_getElem? (i := 279) (rfl))) rfl
theorem t_280 : (Cond.methodLink "LayeredPage" (72 : Nat) ({ cls := "LayeredPage$Page", name := "layerOf", desc := "(I)LLayeredPage$Layer;" } : MethodName)) ∈ TT := TT_in (List.mem_append_right _ (List.mem_of_getElem? (i := 280) (by decide +kernel))) rfl
theorem t_281 : (Cond.instanceMethod ({ cls := "LayeredPage$Page", name := "layerOf", desc := "(I)LLayeredPage$Layer;" } : MethodName)) ∈ TT := TT_in (List.mem_append_right _ (List.mem_of_getElem? (i := 281) (by decide +kernel))) rfl
theorem t_282 : (Cond.selects "LayeredPage$Page" ({ cls := "LayeredPage$Page", name := "layerOf", desc := "(I)LLayeredPage$Layer;" } : MethodName) ({ cls := "LayeredPage$Page", name := "layerOf", desc := "(I)LLayeredPage$Layer;" } : MethodName)) ∈ TT := TT_in (List.mem_append_right _ (List.mem_of_getElem? (i := 282) (by decide +kernel))) rfl
set_option maxRecDepth 100000 in
theorem t_283 : (Cond.code ({ cls := "LayeredPage$Page", name := "layerOf", desc := "(I)LLayeredPage$Layer;" } : MethodName) prog_9_method_4_code (2 : Nat) (Option.some (FieldType.object "LayeredPage$Layer"))) ∈ TT := TT_in (List.mem_append_right _ (List.mem_of_getElem? (i := 283) (rfl))) rfl
theorem t_284 : (Cond.methodLink "LayeredPage" (76 : Nat) ({ cls := "LayeredPage$Layer", name := "hasCell", desc := "(II)Z" } : MethodName)) ∈ TT := TT_in (List.mem_append_right _ (List.mem_of_getElem? (i := 284) (by decide +kernel))) rfl
theorem t_285 : (Cond.instanceMethod ({ cls := "LayeredPage$Layer", name := "hasCell", desc := "(II)Z" } : MethodName)) ∈ TT := TT_in (List.mem_append_right _ (List.mem_of_getElem? (i := 285) (by decide +kernel))) rfl
theorem t_286 : (Cond.selects "LayeredPage$Layer" ({ cls := "LayeredPage$Layer", name := "hasCell", desc := "(II)Z" } : MethodName) ({ cls := "LayeredPage$Layer", name := "hasCell", desc := "(II)Z" } : MethodName)) ∈ TT := TT_in (List.mem_append_right _ (List.mem_of_getElem? (i := 286) (by decide +kernel))) rfl
set_option maxRecDepth 100000 in
theorem t_287 : (Cond.code ({ cls := "LayeredPage$Layer", name := "hasCell", desc := "(II)Z" } : MethodName) prog_7_method_3_code (3 : Nat) (Option.some FieldType.boolean)) ∈ TT := TT_in (List.mem_append_right _ (List.mem_of_getElem? (i := 287) (rfl))) rfl
theorem t_288 : (Cond.constantLong "LayeredPage" (81 : Nat) (-4557430888798830400 : Int64)) ∈ TT := TT_in (List.mem_append_right _ (List.mem_of_getElem? (i := 288) (by decide +kernel))) rfl
theorem t_289 : (Cond.methodLink "LayeredPage" (87 : Nat) ({ cls := "LayeredPage$Layer", name := "setRow", desc := "(IJ)V" } : MethodName)) ∈ TT := TT_in (List.mem_append_right _ (List.mem_of_getElem? (i := 289) (by decide +kernel))) rfl
theorem t_290 : (Cond.instanceMethod ({ cls := "LayeredPage$Layer", name := "setRow", desc := "(IJ)V" } : MethodName)) ∈ TT := TT_in (List.mem_append_right _ (List.mem_of_getElem? (i := 290) (by decide +kernel))) rfl
theorem t_291 : (Cond.selects "LayeredPage$Layer" ({ cls := "LayeredPage$Layer", name := "setRow", desc := "(IJ)V" } : MethodName) ({ cls := "LayeredPage$Layer", name := "setRow", desc := "(IJ)V" } : MethodName)) ∈ TT := TT_in (List.mem_append_right _ (List.mem_of_getElem? (i := 291) (by decide +kernel))) rfl
set_option maxRecDepth 100000 in
theorem t_292 : (Cond.code ({ cls := "LayeredPage$Layer", name := "setRow", desc := "(IJ)V" } : MethodName) prog_7_method_7_code (5 : Nat) (Option.none : Option FieldType)) ∈ TT := TT_in (List.mem_append_right _ (List.mem_of_getElem? (i := 292) (rfl))) rfl
theorem t_293 : (Cond.methodLink "LayeredPage$Layer" (42 : Nat) ({ cls := "LayeredPage$Layer", name := "indexOf", desc := "(II)I" } : MethodName)) ∈ TT := TT_in (List.mem_append_right _ (List.mem_of_getElem? (i := 293) (by decide +kernel))) rfl
theorem t_295 : (Cond.instanceMethod ({ cls := "LayeredPage$Layer", name := "indexOf", desc := "(II)I" } : MethodName)) ∈ TT := TT_in (List.mem_append_right _ (List.mem_of_getElem? (i := 295) (by decide +kernel))) rfl
set_option maxRecDepth 100000 in
theorem t_296 : (Cond.code ({ cls := "LayeredPage$Layer", name := "indexOf", desc := "(II)I" } : MethodName) prog_7_method_4_code (3 : Nat) (Option.some FieldType.int)) ∈ TT := TT_in (List.mem_append_right _ (List.mem_of_getElem? (i := 296) (rfl))) rfl
theorem t_297 : (Cond.methodLink "LayeredPageLaw" (30 : Nat) ({ cls := "LayeredPage", name := "clear", desc := "()V" } : MethodName)) ∈ TT := TT_in (List.mem_append_right _ (List.mem_of_getElem? (i := 297) (by decide +kernel))) rfl
theorem t_298 : (Cond.instanceMethod ({ cls := "LayeredPage", name := "clear", desc := "()V" } : MethodName)) ∈ TT := TT_in (List.mem_append_right _ (List.mem_of_getElem? (i := 298) (by decide +kernel))) rfl
theorem t_299 : (Cond.selects "LayeredPage" ({ cls := "LayeredPage", name := "clear", desc := "()V" } : MethodName) ({ cls := "LayeredPage", name := "clear", desc := "()V" } : MethodName)) ∈ TT := TT_in (List.mem_append_right _ (List.mem_of_getElem? (i := 299) (by decide +kernel))) rfl
set_option maxRecDepth 100000 in
theorem t_300 : (Cond.code ({ cls := "LayeredPage", name := "clear", desc := "()V" } : MethodName) prog_1_method_5_code (1 : Nat) (Option.none : Option FieldType)) ∈ TT := TT_in (List.mem_append_right _ (List.mem_of_getElem? (i := 300) (rfl))) rfl
theorem t_301 : (Cond.methodLink "LayeredPage" (91 : Nat) ({ cls := "LayeredPage$Page", name := "makeEmpty", desc := "()V" } : MethodName)) ∈ TT := TT_in (List.mem_append_right _ (List.mem_of_getElem? (i := 301) (by decide +kernel))) rfl
theorem t_302 : (Cond.instanceMethod ({ cls := "LayeredPage$Page", name := "makeEmpty", desc := "()V" } : MethodName)) ∈ TT := TT_in (List.mem_append_right _ (List.mem_of_getElem? (i := 302) (by decide +kernel))) rfl
theorem t_303 : (Cond.selects "LayeredPage$Page" ({ cls := "LayeredPage$Page", name := "makeEmpty", desc := "()V" } : MethodName) ({ cls := "LayeredPage$Page", name := "makeEmpty", desc := "()V" } : MethodName)) ∈ TT := TT_in (List.mem_append_right _ (List.mem_of_getElem? (i := 303) (by decide +kernel))) rfl
set_option maxRecDepth 100000 in
theorem t_304 : (Cond.code ({ cls := "LayeredPage$Page", name := "makeEmpty", desc := "()V" } : MethodName) prog_9_method_2_code (1 : Nat) (Option.none : Option FieldType)) ∈ TT := TT_in (List.mem_append_right _ (List.mem_of_getElem? (i := 304) (rfl))) rfl
theorem t_305 : (Cond.methodLink "LayeredPage$Page" (44 : Nat) ({ cls := "LayeredPage$Layer", name := "makeEmpty", desc := "()V" } : MethodName)) ∈ TT := TT_in (List.mem_append_right _ (List.mem_of_getElem? (i := 305) (by decide +kernel))) rfl
theorem t_306 : (Cond.instanceMethod ({ cls := "LayeredPage$Layer", name := "makeEmpty", desc := "()V" } : MethodName)) ∈ TT := TT_in (List.mem_append_right _ (List.mem_of_getElem? (i := 306) (by decide +kernel))) rfl
theorem t_307 : (Cond.selects "LayeredPage$Layer" ({ cls := "LayeredPage$Layer", name := "makeEmpty", desc := "()V" } : MethodName) ({ cls := "LayeredPage$Layer", name := "makeEmpty", desc := "()V" } : MethodName)) ∈ TT := TT_in (List.mem_append_right _ (List.mem_of_getElem? (i := 307) (by decide +kernel))) rfl
set_option maxRecDepth 100000 in
theorem t_308 : (Cond.code ({ cls := "LayeredPage$Layer", name := "makeEmpty", desc := "()V" } : MethodName) prog_7_method_2_code (1 : Nat) (Option.none : Option FieldType)) ∈ TT := TT_in (List.mem_append_right _ (List.mem_of_getElem? (i := 308) (rfl))) rfl
theorem t_309 : (Cond.methodLink "LayeredPage$Layer" (32 : Nat) ({ cls := "java/util/Arrays", name := "fill", desc := "([II)V" } : MethodName)) ∈ TT := TT_in (List.mem_append_right _ (List.mem_of_getElem? (i := 309) (by decide +kernel))) rfl
theorem t_310 : (Cond.methodLink "LayeredPageLaw" (34 : Nat) ({ cls := "LayeredPage", name := "encode", desc := "(I)I" } : MethodName)) ∈ TT := TT_in (List.mem_append_right _ (List.mem_of_getElem? (i := 310) (by decide +kernel))) rfl
theorem t_311 : (Cond.instanceMethod ({ cls := "LayeredPage", name := "encode", desc := "(I)I" } : MethodName)) ∈ TT := TT_in (List.mem_append_right _ (List.mem_of_getElem? (i := 311) (by decide +kernel))) rfl
theorem t_312 : (Cond.selects "LayeredPage" ({ cls := "LayeredPage", name := "encode", desc := "(I)I" } : MethodName) ({ cls := "LayeredPage", name := "encode", desc := "(I)I" } : MethodName)) ∈ TT := TT_in (List.mem_append_right _ (List.mem_of_getElem? (i := 312) (by decide +kernel))) rfl
set_option maxRecDepth 100000 in
theorem t_313 : (Cond.code ({ cls := "LayeredPage", name := "encode", desc := "(I)I" } : MethodName) prog_1_method_6_code (2 : Nat) (Option.some FieldType.int)) ∈ TT := TT_in (List.mem_append_right _ (List.mem_of_getElem? (i := 313) (rfl))) rfl
theorem t_314 : (Cond.methodLink "LayeredPage" (94 : Nat) ({ cls := "LayeredPage$DocumentWriter", name := "write", desc := "(LLayeredPage$Page;ILLayeredPage$Octets;)V" } : MethodName)) ∈ TT := TT_in (List.mem_append_right _ (List.mem_of_getElem? (i := 314) (by decide +kernel))) rfl
theorem t_315 : (Cond.instanceMethod ({ cls := "LayeredPage$DocumentWriter", name := "write", desc := "(LLayeredPage$Page;ILLayeredPage$Octets;)V" } : MethodName)) ∈ TT := TT_in (List.mem_append_right _ (List.mem_of_getElem? (i := 315) (by decide +kernel))) rfl
theorem t_316 : (Cond.selects "LayeredPage$DocumentWriter" ({ cls := "LayeredPage$DocumentWriter", name := "write", desc := "(LLayeredPage$Page;ILLayeredPage$Octets;)V" } : MethodName) ({ cls := "LayeredPage$DocumentWriter", name := "write", desc := "(LLayeredPage$Page;ILLayeredPage$Octets;)V" } : MethodName)) ∈ TT := TT_in (List.mem_append_right _ (List.mem_of_getElem? (i := 316) (by decide +kernel))) rfl
set_option maxRecDepth 100000 in
theorem t_317 : (Cond.code ({ cls := "LayeredPage$DocumentWriter", name := "write", desc := "(LLayeredPage$Page;ILLayeredPage$Octets;)V" } : MethodName) prog_6_method_2_code (5 : Nat) (Option.none : Option FieldType)) ∈ TT := TT_in (List.mem_append_right _ (List.mem_of_getElem? (i := 317) (rfl))) rfl
theorem t_318 : (Cond.methodLink "LayeredPage$DocumentWriter" (18 : Nat) ({ cls := "LayeredPage$Octets", name := "keep", desc := "(I)V" } : MethodName)) ∈ TT := TT_in (List.mem_append_right _ (List.mem_of_getElem? (i := 318) (by decide +kernel))) rfl
theorem t_319 : (Cond.instanceMethod ({ cls := "LayeredPage$Octets", name := "keep", desc := "(I)V" } : MethodName)) ∈ TT := TT_in (List.mem_append_right _ (List.mem_of_getElem? (i := 319) (by decide +kernel))) rfl
theorem t_320 : (Cond.selects "LayeredPage$Octets" ({ cls := "LayeredPage$Octets", name := "keep", desc := "(I)V" } : MethodName) ({ cls := "LayeredPage$Octets", name := "keep", desc := "(I)V" } : MethodName)) ∈ TT := TT_in (List.mem_append_right _ (List.mem_of_getElem? (i := 320) (by decide +kernel))) rfl
set_option maxRecDepth 100000 in
theorem t_321 : (Cond.code ({ cls := "LayeredPage$Octets", name := "keep", desc := "(I)V" } : MethodName) prog_8_method_5_code (3 : Nat) (Option.none : Option FieldType)) ∈ TT := TT_in (List.mem_append_right _ (List.mem_of_getElem? (i := 321) (rfl))) rfl
theorem t_322 : (Cond.methodLink "LayeredPage$DocumentWriter" (24 : Nat) ({ cls := "LayeredPage$Octets", name := "append", desc := "(I)V" } : MethodName)) ∈ TT := TT_in (List.mem_append_right _ (List.mem_of_getElem? (i := 322) (by decide +kernel))) rfl
theorem t_323 : (Cond.instanceMethod ({ cls := "LayeredPage$Octets", name := "append", desc := "(I)V" } : MethodName)) ∈ TT := TT_in (List.mem_append_right _ (List.mem_of_getElem? (i := 323) (by decide +kernel))) rfl
theorem t_324 : (Cond.selects "LayeredPage$Octets" ({ cls := "LayeredPage$Octets", name := "append", desc := "(I)V" } : MethodName) ({ cls := "LayeredPage$Octets", name := "append", desc := "(I)V" } : MethodName)) ∈ TT := TT_in (List.mem_append_right _ (List.mem_of_getElem? (i := 324) (by decide +kernel))) rfl
set_option maxRecDepth 100000 in
theorem t_325 : (Cond.code ({ cls := "LayeredPage$Octets", name := "append", desc := "(I)V" } : MethodName) prog_8_method_4_code (2 : Nat) (Option.none : Option FieldType)) ∈ TT := TT_in (List.mem_append_right _ (List.mem_of_getElem? (i := 325) (rfl))) rfl
theorem t_326 : (Cond.methodLink "LayeredPage$Octets" (25 : Nat) ({ cls := "LayeredPage$Octets", name := "set", desc := "(II)V" } : MethodName)) ∈ TT := TT_in (List.mem_append_right _ (List.mem_of_getElem? (i := 326) (by decide +kernel))) rfl
theorem t_327 : (Cond.instanceMethod ({ cls := "LayeredPage$Octets", name := "set", desc := "(II)V" } : MethodName)) ∈ TT := TT_in (List.mem_append_right _ (List.mem_of_getElem? (i := 327) (by decide +kernel))) rfl
theorem t_328 : (Cond.selects "LayeredPage$Octets" ({ cls := "LayeredPage$Octets", name := "set", desc := "(II)V" } : MethodName) ({ cls := "LayeredPage$Octets", name := "set", desc := "(II)V" } : MethodName)) ∈ TT := TT_in (List.mem_append_right _ (List.mem_of_getElem? (i := 328) (by decide +kernel))) rfl
set_option maxRecDepth 100000 in
theorem t_329 : (Cond.code ({ cls := "LayeredPage$Octets", name := "set", desc := "(II)V" } : MethodName) prog_8_method_3_code (3 : Nat) (Option.none : Option FieldType)) ∈ TT := TT_in (List.mem_append_right _ (List.mem_of_getElem? (i := 329) (rfl))) rfl
theorem t_330 : (Cond.methodLink "LayeredPage$Octets" (19 : Nat) ({ cls := "java/lang/Math", name := "max", desc := "(II)I" } : MethodName)) ∈ TT := TT_in (List.mem_append_right _ (List.mem_of_getElem? (i := 330) (by decide +kernel))) rfl
theorem t_331 : (Cond.static ({ cls := "java/lang/Math", name := "max", desc := "(II)I" } : MethodName)) ∈ TT := TT_in (List.mem_append_right _ (List.mem_of_getElem? (i := 331) (by decide +kernel))) rfl
set_option maxRecDepth 100000 in
theorem t_332 : (Cond.code ({ cls := "java/lang/Math", name := "max", desc := "(II)I" } : MethodName) prog_13_method_65_code (2 : Nat) (Option.some FieldType.int)) ∈ TT := TT_in (List.mem_append_right _ (List.mem_of_getElem? (i := 332) (rfl))) rfl
theorem t_333 : (Cond.methodLink "LayeredPage$DocumentWriter" (33 : Nat) ({ cls := "LayeredPage$DocumentWriter", name := "writeShape", desc := "(LLayeredPage$Page;ILLayeredPage$Octets;)V" } : MethodName)) ∈ TT := TT_in (List.mem_append_right _ (List.mem_of_getElem? (i := 333) (by decide +kernel))) rfl
theorem t_335 : (Cond.instanceMethod ({ cls := "LayeredPage$DocumentWriter", name := "writeShape", desc := "(LLayeredPage$Page;ILLayeredPage$Octets;)V" } : MethodName)) ∈ TT := TT_in (List.mem_append_right _ (List.mem_of_getElem? (i := 335) (by decide +kernel))) rfl
set_option maxRecDepth 100000 in
theorem t_336 : (Cond.code ({ cls := "LayeredPage$DocumentWriter", name := "writeShape", desc := "(LLayeredPage$Page;ILLayeredPage$Octets;)V" } : MethodName) prog_6_method_3_code (6 : Nat) (Option.none : Option FieldType)) ∈ TT := TT_in (List.mem_append_right _ (List.mem_of_getElem? (i := 336) (rfl))) rfl
theorem t_337 : (Cond.methodLink "LayeredPage$DocumentWriter" (56 : Nat) ({ cls := "LayeredPage$Octets", name := "openChunk", desc := "(I)I" } : MethodName)) ∈ TT := TT_in (List.mem_append_right _ (List.mem_of_getElem? (i := 337) (by decide +kernel))) rfl
theorem t_338 : (Cond.instanceMethod ({ cls := "LayeredPage$Octets", name := "openChunk", desc := "(I)I" } : MethodName)) ∈ TT := TT_in (List.mem_append_right _ (List.mem_of_getElem? (i := 338) (by decide +kernel))) rfl
theorem t_339 : (Cond.selects "LayeredPage$Octets" ({ cls := "LayeredPage$Octets", name := "openChunk", desc := "(I)I" } : MethodName) ({ cls := "LayeredPage$Octets", name := "openChunk", desc := "(I)I" } : MethodName)) ∈ TT := TT_in (List.mem_append_right _ (List.mem_of_getElem? (i := 339) (by decide +kernel))) rfl
set_option maxRecDepth 100000 in
theorem t_340 : (Cond.code ({ cls := "LayeredPage$Octets", name := "openChunk", desc := "(I)I" } : MethodName) prog_8_method_7_code (2 : Nat) (Option.some FieldType.int)) ∈ TT := TT_in (List.mem_append_right _ (List.mem_of_getElem? (i := 340) (rfl))) rfl
theorem t_341 : (Cond.methodLink "LayeredPage$Octets" (32 : Nat) ({ cls := "LayeredPage$Octets", name := "append", desc := "(I)V" } : MethodName)) ∈ TT := TT_in (List.mem_append_right _ (List.mem_of_getElem? (i := 341) (by decide +kernel))) rfl
theorem t_342 : (Cond.methodLink "LayeredPage$DocumentWriter" (78 : Nat) ({ cls := "LayeredPage$CodeWriter", name := "begin", desc := "([II)V" } : MethodName)) ∈ TT := TT_in (List.mem_append_right _ (List.mem_of_getElem? (i := 342) (by decide +kernel))) rfl
theorem t_343 : (Cond.instanceMethod ({ cls := "LayeredPage$CodeWriter", name := "begin", desc := "([II)V" } : MethodName)) ∈ TT := TT_in (List.mem_append_right _ (List.mem_of_getElem? (i := 343) (by decide +kernel))) rfl
theorem t_344 : (Cond.selects "LayeredPage$CodeWriter" ({ cls := "LayeredPage$CodeWriter", name := "begin", desc := "([II)V" } : MethodName) ({ cls := "LayeredPage$CodeWriter", name := "begin", desc := "([II)V" } : MethodName)) ∈ TT := TT_in (List.mem_append_right _ (List.mem_of_getElem? (i := 344) (by decide +kernel))) rfl
set_option maxRecDepth 100000 in
theorem t_345 : (Cond.code ({ cls := "LayeredPage$CodeWriter", name := "begin", desc := "([II)V" } : MethodName) prog_3_method_2_code (3 : Nat) (Option.none : Option FieldType)) ∈ TT := TT_in (List.mem_append_right _ (List.mem_of_getElem? (i := 345) (rfl))) rfl
theorem t_346 : (Cond.methodLink "LayeredPage$CodeWriter" (20 : Nat) ({ cls := "LayeredPage$CodeWriter", name := "restart", desc := "()V" } : MethodName)) ∈ TT := TT_in (List.mem_append_right _ (List.mem_of_getElem? (i := 346) (by decide +kernel))) rfl
theorem t_347 : (Cond.sameMethod "LayeredPage$CodeWriter" "LayeredPage$Coder" "restart" "()V") ∈ TT := TT_in (List.mem_append_right _ (List.mem_of_getElem? (i := 347) (by decide +kernel))) rfl
theorem q_348 : (Cond.declares ({ cls := "LayeredPage$Coder", name := "restart", desc := "()V" } : MethodName)) ∈ lw_tbl := List.mem_append_right _ (List.mem_of_getElem? (i := 348) (by decide +kernel))
theorem t_349 : (Cond.selects "LayeredPage$CodeWriter" ({ cls := "LayeredPage$CodeWriter", name := "restart", desc := "()V" } : MethodName) ({ cls := "LayeredPage$Coder", name := "restart", desc := "()V" } : MethodName)) ∈ TT := TT_in (List.mem_append_right _ (List.mem_of_getElem? (i := 349) (by decide +kernel))) rfl
theorem t_350 : (Cond.methodLink "LayeredPage$DocumentWriter" (82 : Nat) ({ cls := "LayeredPage$Page", name := "codeShape", desc := "(ILLayeredPage$Coder;)V" } : MethodName)) ∈ TT := TT_in (List.mem_append_right _ (List.mem_of_getElem? (i := 350) (by decide +kernel))) rfl
theorem t_351 : (Cond.instanceMethod ({ cls := "LayeredPage$Page", name := "codeShape", desc := "(ILLayeredPage$Coder;)V" } : MethodName)) ∈ TT := TT_in (List.mem_append_right _ (List.mem_of_getElem? (i := 351) (by decide +kernel))) rfl
theorem t_352 : (Cond.selects "LayeredPage$Page" ({ cls := "LayeredPage$Page", name := "codeShape", desc := "(ILLayeredPage$Coder;)V" } : MethodName) ({ cls := "LayeredPage$Page", name := "codeShape", desc := "(ILLayeredPage$Coder;)V" } : MethodName)) ∈ TT := TT_in (List.mem_append_right _ (List.mem_of_getElem? (i := 352) (by decide +kernel))) rfl
set_option maxRecDepth 100000 in
theorem t_353 : (Cond.code ({ cls := "LayeredPage$Page", name := "codeShape", desc := "(ILLayeredPage$Coder;)V" } : MethodName) prog_9_method_8_code (8 : Nat) (Option.none : Option FieldType)) ∈ TT := TT_in (List.mem_append_right _ (List.mem_of_getElem? (i := 353) (rfl))) rfl
theorem t_354 : (Cond.methodLink "LayeredPage$Page" (64 : Nat) ({ cls := "LayeredPage$Page", name := "hasShape", desc := "(I)Z" } : MethodName)) ∈ TT := TT_in (List.mem_append_right _ (List.mem_of_getElem? (i := 354) (by decide +kernel))) rfl
theorem t_355 : (Cond.methodLink "LayeredPage$Page" (68 : Nat) ({ cls := "LayeredPage$Shape", name := "contextAlone", desc := "(II)I" } : MethodName)) ∈ TT := TT_in (List.mem_append_right _ (List.mem_of_getElem? (i := 355) (by decide +kernel))) rfl
theorem t_356 : (Cond.instanceMethod ({ cls := "LayeredPage$Shape", name := "contextAlone", desc := "(II)I" } : MethodName)) ∈ TT := TT_in (List.mem_append_right _ (List.mem_of_getElem? (i := 356) (by decide +kernel))) rfl
theorem t_357 : (Cond.selects "LayeredPage$Shape" ({ cls := "LayeredPage$Shape", name := "contextAlone", desc := "(II)I" } : MethodName) ({ cls := "LayeredPage$Shape", name := "contextAlone", desc := "(II)I" } : MethodName)) ∈ TT := TT_in (List.mem_append_right _ (List.mem_of_getElem? (i := 357) (by decide +kernel))) rfl
set_option maxRecDepth 100000 in
theorem t_358 : (Cond.code ({ cls := "LayeredPage$Shape", name := "contextAlone", desc := "(II)I" } : MethodName) prog_10_method_3_code (3 : Nat) (Option.some FieldType.int)) ∈ TT := TT_in (List.mem_append_right _ (List.mem_of_getElem? (i := 358) (rfl))) rfl
theorem t_359 : (Cond.methodLink "LayeredPage$Shape" (25 : Nat) ({ cls := "LayeredPage$Shape", name := "bitAt", desc := "(II)I" } : MethodName)) ∈ TT := TT_in (List.mem_append_right _ (List.mem_of_getElem? (i := 359) (by decide +kernel))) rfl
theorem t_360 : (Cond.instanceMethod ({ cls := "LayeredPage$Shape", name := "bitAt", desc := "(II)I" } : MethodName)) ∈ TT := TT_in (List.mem_append_right _ (List.mem_of_getElem? (i := 360) (by decide +kernel))) rfl
theorem t_361 : (Cond.selects "LayeredPage$Shape" ({ cls := "LayeredPage$Shape", name := "bitAt", desc := "(II)I" } : MethodName) ({ cls := "LayeredPage$Shape", name := "bitAt", desc := "(II)I" } : MethodName)) ∈ TT := TT_in (List.mem_append_right _ (List.mem_of_getElem? (i := 361) (by decide +kernel))) rfl
set_option maxRecDepth 100000 in
theorem t_362 : (Cond.code ({ cls := "LayeredPage$Shape", name := "bitAt", desc := "(II)I" } : MethodName) prog_10_method_2_code (3 : Nat) (Option.some FieldType.int)) ∈ TT := TT_in (List.mem_append_right _ (List.mem_of_getElem? (i := 362) (rfl))) rfl
theorem t_363 : (Cond.methodLink "LayeredPage$Page" (71 : Nat) ({ cls := "LayeredPage$Shape", name := "contextWith", desc := "(LLayeredPage$Shape;II)I" } : MethodName)) ∈ TT := TT_in (List.mem_append_right _ (List.mem_of_getElem? (i := 363) (by decide +kernel))) rfl
theorem t_364 : (Cond.instanceMethod ({ cls := "LayeredPage$Shape", name := "contextWith", desc := "(LLayeredPage$Shape;II)I" } : MethodName)) ∈ TT := TT_in (List.mem_append_right _ (List.mem_of_getElem? (i := 364) (by decide +kernel))) rfl
theorem t_365 : (Cond.selects "LayeredPage$Shape" ({ cls := "LayeredPage$Shape", name := "contextWith", desc := "(LLayeredPage$Shape;II)I" } : MethodName) ({ cls := "LayeredPage$Shape", name := "contextWith", desc := "(LLayeredPage$Shape;II)I" } : MethodName)) ∈ TT := TT_in (List.mem_append_right _ (List.mem_of_getElem? (i := 365) (by decide +kernel))) rfl
set_option maxRecDepth 100000 in
theorem t_366 : (Cond.code ({ cls := "LayeredPage$Shape", name := "contextWith", desc := "(LLayeredPage$Shape;II)I" } : MethodName) prog_10_method_4_code (4 : Nat) (Option.some FieldType.int)) ∈ TT := TT_in (List.mem_append_right _ (List.mem_of_getElem? (i := 366) (rfl))) rfl
theorem t_367 : (Cond.methodLink "LayeredPage$Page" (60 : Nat) ({ cls := "LayeredPage$Shape", name := "bitAt", desc := "(II)I" } : MethodName)) ∈ TT := TT_in (List.mem_append_right _ (List.mem_of_getElem? (i := 367) (by decide +kernel))) rfl
theorem t_368 : (Cond.methodLink "LayeredPage$Page" (75 : Nat) ({ cls := "LayeredPage$Coder", name := "code", desc := "(II)I" } : MethodName)) ∈ TT := TT_in (List.mem_append_right _ (List.mem_of_getElem? (i := 368) (by decide +kernel))) rfl
theorem t_369 : (Cond.instanceMethod ({ cls := "LayeredPage$Coder", name := "code", desc := "(II)I" } : MethodName)) ∈ TT := TT_in (List.mem_append_right _ (List.mem_of_getElem? (i := 369) (by decide +kernel))) rfl
theorem t_370 : (Cond.sameMethod "LayeredPage$Coder" "LayeredPage$Coder" "code" "(II)I") ∈ TT := TT_in (List.mem_append_right _ (List.mem_of_getElem? (i := 370) (by decide +kernel))) rfl
theorem t_371 : (Cond.selects "LayeredPage$CodeReader" ({ cls := "LayeredPage$Coder", name := "code", desc := "(II)I" } : MethodName) ({ cls := "LayeredPage$Coder", name := "code", desc := "(II)I" } : MethodName)) ∈ TT := TT_in (List.mem_append_right _ (List.mem_of_getElem? (i := 371) (by decide +kernel))) rfl
theorem t_372 : (Cond.selects "LayeredPage$CodeWriter" ({ cls := "LayeredPage$Coder", name := "code", desc := "(II)I" } : MethodName) ({ cls := "LayeredPage$Coder", name := "code", desc := "(II)I" } : MethodName)) ∈ TT := TT_in (List.mem_append_right _ (List.mem_of_getElem? (i := 372) (by decide +kernel))) rfl
set_option maxRecDepth 100000 in
theorem t_373 : (Cond.code ({ cls := "LayeredPage$Coder", name := "code", desc := "(II)I" } : MethodName) prog_4_method_5_code (6 : Nat) (Option.some FieldType.int)) ∈ TT := TT_in (List.mem_append_right _ (List.mem_of_getElem? (i := 373) (rfl))) rfl
theorem t_374 : (Cond.methodLink "LayeredPage$Coder" (30 : Nat) ({ cls := "LayeredPage$Coder", name := "choose", desc := "(II)I" } : MethodName)) ∈ TT := TT_in (List.mem_append_right _ (List.mem_of_getElem? (i := 374) (by decide +kernel))) rfl
theorem q_375 : (Cond.declares ({ cls := "LayeredPage$Coder", name := "choose", desc := "(II)I" } : MethodName)) ∈ lw_tbl := List.mem_append_right _ (List.mem_of_getElem? (i := 375) (by decide +kernel))
theorem t_376 : (Cond.sameMethod "LayeredPage$Coder" "LayeredPage$Coder" "choose" "(II)I") ∈ TT := TT_in (List.mem_append_right _ (List.mem_of_getElem? (i := 376) (by decide +kernel))) rfl
theorem t_377 : (Cond.selects "LayeredPage$CodeReader" ({ cls := "LayeredPage$Coder", name := "choose", desc := "(II)I" } : MethodName) ({ cls := "LayeredPage$CodeReader", name := "choose", desc := "(II)I" } : MethodName)) ∈ TT := TT_in (List.mem_append_right _ (List.mem_of_getElem? (i := 377) (by decide +kernel))) rfl
theorem t_378 : (Cond.instanceMethod ({ cls := "LayeredPage$CodeReader", name := "choose", desc := "(II)I" } : MethodName)) ∈ TT := TT_in (List.mem_append_right _ (List.mem_of_getElem? (i := 378) (by decide +kernel))) rfl
set_option maxRecDepth 100000 in
theorem t_379 : (Cond.code ({ cls := "LayeredPage$CodeReader", name := "choose", desc := "(II)I" } : MethodName) prog_2_method_3_code (3 : Nat) (Option.some FieldType.int)) ∈ TT := TT_in (List.mem_append_right _ (List.mem_of_getElem? (i := 379) (rfl))) rfl
theorem t_380 : (Cond.selects "LayeredPage$CodeWriter" ({ cls := "LayeredPage$Coder", name := "choose", desc := "(II)I" } : MethodName) ({ cls := "LayeredPage$CodeWriter", name := "choose", desc := "(II)I" } : MethodName)) ∈ TT := TT_in (List.mem_append_right _ (List.mem_of_getElem? (i := 380) (by decide +kernel))) rfl
theorem t_381 : (Cond.instanceMethod ({ cls := "LayeredPage$CodeWriter", name := "choose", desc := "(II)I" } : MethodName)) ∈ TT := TT_in (List.mem_append_right _ (List.mem_of_getElem? (i := 381) (by decide +kernel))) rfl
set_option maxRecDepth 100000 in
theorem t_382 : (Cond.code ({ cls := "LayeredPage$CodeWriter", name := "choose", desc := "(II)I" } : MethodName) prog_3_method_3_code (6 : Nat) (Option.some FieldType.int)) ∈ TT := TT_in (List.mem_append_right _ (List.mem_of_getElem? (i := 382) (rfl))) rfl
theorem t_383 : (Cond.methodLink "LayeredPage$Coder" (34 : Nat) ({ cls := "LayeredPage$Coder", name := "tally", desc := "(II)V" } : MethodName)) ∈ TT := TT_in (List.mem_append_right _ (List.mem_of_getElem? (i := 383) (by decide +kernel))) rfl
theorem t_385 : (Cond.instanceMethod ({ cls := "LayeredPage$Coder", name := "tally", desc := "(II)V" } : MethodName)) ∈ TT := TT_in (List.mem_append_right _ (List.mem_of_getElem? (i := 385) (by decide +kernel))) rfl
set_option maxRecDepth 100000 in
theorem t_386 : (Cond.code ({ cls := "LayeredPage$Coder", name := "tally", desc := "(II)V" } : MethodName) prog_4_method_6_code (3 : Nat) (Option.none : Option FieldType)) ∈ TT := TT_in (List.mem_append_right _ (List.mem_of_getElem? (i := 386) (rfl))) rfl
theorem t_387 : (Cond.constant "LayeredPage$Coder" (38 : Nat) (32768 : Int32)) ∈ TT := TT_in (List.mem_append_right _ (List.mem_of_getElem? (i := 387) (by decide +kernel))) rfl
theorem t_388 : (Cond.methodLink "LayeredPage$Coder" (39 : Nat) ({ cls := "LayeredPage$Coder", name := "shift", desc := "()V" } : MethodName)) ∈ TT := TT_in (List.mem_append_right _ (List.mem_of_getElem? (i := 388) (by decide +kernel))) rfl
theorem q_389 : (Cond.declares ({ cls := "LayeredPage$Coder", name := "shift", desc := "()V" } : MethodName)) ∈ lw_tbl := List.mem_append_right _ (List.mem_of_getElem? (i := 389) (by decide +kernel))
theorem t_390 : (Cond.sameMethod "LayeredPage$Coder" "LayeredPage$Coder" "shift" "()V") ∈ TT := TT_in (List.mem_append_right _ (List.mem_of_getElem? (i := 390) (by decide +kernel))) rfl
theorem t_391 : (Cond.selects "LayeredPage$CodeReader" ({ cls := "LayeredPage$Coder", name := "shift", desc := "()V" } : MethodName) ({ cls := "LayeredPage$CodeReader", name := "shift", desc := "()V" } : MethodName)) ∈ TT := TT_in (List.mem_append_right _ (List.mem_of_getElem? (i := 391) (by decide +kernel))) rfl
theorem t_392 : (Cond.instanceMethod ({ cls := "LayeredPage$CodeReader", name := "shift", desc := "()V" } : MethodName)) ∈ TT := TT_in (List.mem_append_right _ (List.mem_of_getElem? (i := 392) (by decide +kernel))) rfl
set_option maxRecDepth 100000 in
theorem t_393 : (Cond.code ({ cls := "LayeredPage$CodeReader", name := "shift", desc := "()V" } : MethodName) prog_2_method_4_code (1 : Nat) (Option.none : Option FieldType)) ∈ TT := TT_in (List.mem_append_right _ (List.mem_of_getElem? (i := 393) (rfl))) rfl
theorem t_394 : (Cond.selects "LayeredPage$CodeWriter" ({ cls := "LayeredPage$Coder", name := "shift", desc := "()V" } : MethodName) ({ cls := "LayeredPage$CodeWriter", name := "shift", desc := "()V" } : MethodName)) ∈ TT := TT_in (List.mem_append_right _ (List.mem_of_getElem? (i := 394) (by decide +kernel))) rfl
theorem t_395 : (Cond.instanceMethod ({ cls := "LayeredPage$CodeWriter", name := "shift", desc := "()V" } : MethodName)) ∈ TT := TT_in (List.mem_append_right _ (List.mem_of_getElem? (i := 395) (by decide +kernel))) rfl
set_option maxRecDepth 100000 in
theorem t_396 : (Cond.code ({ cls := "LayeredPage$CodeWriter", name := "shift", desc := "()V" } : MethodName) prog_3_method_4_code (1 : Nat) (Option.none : Option FieldType)) ∈ TT := TT_in (List.mem_append_right _ (List.mem_of_getElem? (i := 396) (rfl))) rfl
theorem t_397 : (Cond.methodLink "LayeredPage$DocumentWriter" (86 : Nat) ({ cls := "LayeredPage$CodeWriter", name := "size", desc := "()I" } : MethodName)) ∈ TT := TT_in (List.mem_append_right _ (List.mem_of_getElem? (i := 397) (by decide +kernel))) rfl
theorem t_398 : (Cond.instanceMethod ({ cls := "LayeredPage$CodeWriter", name := "size", desc := "()I" } : MethodName)) ∈ TT := TT_in (List.mem_append_right _ (List.mem_of_getElem? (i := 398) (by decide +kernel))) rfl
theorem t_399 : (Cond.selects "LayeredPage$CodeWriter" ({ cls := "LayeredPage$CodeWriter", name := "size", desc := "()I" } : MethodName) ({ cls := "LayeredPage$CodeWriter", name := "size", desc := "()I" } : MethodName)) ∈ TT := TT_in (List.mem_append_right _ (List.mem_of_getElem? (i := 399) (by decide +kernel))) rfl
set_option maxRecDepth 100000 in
theorem t_400 : (Cond.code ({ cls := "LayeredPage$CodeWriter", name := "size", desc := "()I" } : MethodName) prog_3_method_5_code (1 : Nat) (Option.some FieldType.int)) ∈ TT := TT_in (List.mem_append_right _ (List.mem_of_getElem? (i := 400) (rfl))) rfl
theorem t_401 : (Cond.methodLink "LayeredPage$DocumentWriter" (90 : Nat) ({ cls := "LayeredPage$Octets", name := "take", desc := "(I)V" } : MethodName)) ∈ TT := TT_in (List.mem_append_right _ (List.mem_of_getElem? (i := 401) (by decide +kernel))) rfl
theorem t_402 : (Cond.instanceMethod ({ cls := "LayeredPage$Octets", name := "take", desc := "(I)V" } : MethodName)) ∈ TT := TT_in (List.mem_append_right _ (List.mem_of_getElem? (i := 402) (by decide +kernel))) rfl
theorem t_403 : (Cond.selects "LayeredPage$Octets" ({ cls := "LayeredPage$Octets", name := "take", desc := "(I)V" } : MethodName) ({ cls := "LayeredPage$Octets", name := "take", desc := "(I)V" } : MethodName)) ∈ TT := TT_in (List.mem_append_right _ (List.mem_of_getElem? (i := 403) (by decide +kernel))) rfl
set_option maxRecDepth 100000 in
theorem t_404 : (Cond.code ({ cls := "LayeredPage$Octets", name := "take", desc := "(I)V" } : MethodName) prog_8_method_6_code (2 : Nat) (Option.none : Option FieldType)) ∈ TT := TT_in (List.mem_append_right _ (List.mem_of_getElem? (i := 404) (rfl))) rfl
theorem t_405 : (Cond.methodLink "LayeredPage$Octets" (29 : Nat) ({ cls := "java/lang/Math", name := "min", desc := "(II)I" } : MethodName)) ∈ TT := TT_in (List.mem_append_right _ (List.mem_of_getElem? (i := 405) (by decide +kernel))) rfl
theorem t_406 : (Cond.static ({ cls := "java/lang/Math", name := "min", desc := "(II)I" } : MethodName)) ∈ TT := TT_in (List.mem_append_right _ (List.mem_of_getElem? (i := 406) (by decide +kernel))) rfl
set_option maxRecDepth 100000 in
theorem t_407 : (Cond.code ({ cls := "java/lang/Math", name := "min", desc := "(II)I" } : MethodName) prog_13_method_69_code (2 : Nat) (Option.some FieldType.int)) ∈ TT := TT_in (List.mem_append_right _ (List.mem_of_getElem? (i := 407) (rfl))) rfl
theorem t_408 : (Cond.methodLink "LayeredPage$DocumentWriter" (93 : Nat) ({ cls := "LayeredPage$Octets", name := "closeChunk", desc := "(I)V" } : MethodName)) ∈ TT := TT_in (List.mem_append_right _ (List.mem_of_getElem? (i := 408) (by decide +kernel))) rfl
theorem t_409 : (Cond.instanceMethod ({ cls := "LayeredPage$Octets", name := "closeChunk", desc := "(I)V" } : MethodName)) ∈ TT := TT_in (List.mem_append_right _ (List.mem_of_getElem? (i := 409) (by decide +kernel))) rfl
theorem t_410 : (Cond.selects "LayeredPage$Octets" ({ cls := "LayeredPage$Octets", name := "closeChunk", desc := "(I)V" } : MethodName) ({ cls := "LayeredPage$Octets", name := "closeChunk", desc := "(I)V" } : MethodName)) ∈ TT := TT_in (List.mem_append_right _ (List.mem_of_getElem? (i := 410) (by decide +kernel))) rfl
set_option maxRecDepth 100000 in
theorem t_411 : (Cond.code ({ cls := "LayeredPage$Octets", name := "closeChunk", desc := "(I)V" } : MethodName) prog_8_method_8_code (3 : Nat) (Option.none : Option FieldType)) ∈ TT := TT_in (List.mem_append_right _ (List.mem_of_getElem? (i := 411) (rfl))) rfl
theorem t_412 : (Cond.methodLink "LayeredPage$DocumentWriter" (37 : Nat) ({ cls := "LayeredPage$DocumentWriter", name := "writePlacings", desc := "(LLayeredPage$Page;LLayeredPage$Octets;)V" } : MethodName)) ∈ TT := TT_in (List.mem_append_right _ (List.mem_of_getElem? (i := 412) (by decide +kernel))) rfl
theorem t_414 : (Cond.instanceMethod ({ cls := "LayeredPage$DocumentWriter", name := "writePlacings", desc := "(LLayeredPage$Page;LLayeredPage$Octets;)V" } : MethodName)) ∈ TT := TT_in (List.mem_append_right _ (List.mem_of_getElem? (i := 414) (by decide +kernel))) rfl
set_option maxRecDepth 100000 in
theorem t_415 : (Cond.code ({ cls := "LayeredPage$DocumentWriter", name := "writePlacings", desc := "(LLayeredPage$Page;LLayeredPage$Octets;)V" } : MethodName) prog_6_method_4_code (5 : Nat) (Option.none : Option FieldType)) ∈ TT := TT_in (List.mem_append_right _ (List.mem_of_getElem? (i := 415) (rfl))) rfl
theorem t_416 : (Cond.methodLink "LayeredPage$DocumentWriter" (45 : Nat) ({ cls := "LayeredPage$DocumentWriter", name := "writeLayer", desc := "(ILLayeredPage$Layer;ILLayeredPage$Octets;)V" } : MethodName)) ∈ TT := TT_in (List.mem_append_right _ (List.mem_of_getElem? (i := 416) (by decide +kernel))) rfl
theorem t_418 : (Cond.instanceMethod ({ cls := "LayeredPage$DocumentWriter", name := "writeLayer", desc := "(ILLayeredPage$Layer;ILLayeredPage$Octets;)V" } : MethodName)) ∈ TT := TT_in (List.mem_append_right _ (List.mem_of_getElem? (i := 418) (by decide +kernel))) rfl
set_option maxRecDepth 100000 in
theorem t_419 : (Cond.code ({ cls := "LayeredPage$DocumentWriter", name := "writeLayer", desc := "(ILLayeredPage$Layer;ILLayeredPage$Octets;)V" } : MethodName) prog_6_method_5_code (6 : Nat) (Option.none : Option FieldType)) ∈ TT := TT_in (List.mem_append_right _ (List.mem_of_getElem? (i := 419) (rfl))) rfl
theorem t_420 : (Cond.methodLink "LayeredPage$DocumentWriter" (105 : Nat) ({ cls := "LayeredPage$Layer", name := "liftCells", desc := "()V" } : MethodName)) ∈ TT := TT_in (List.mem_append_right _ (List.mem_of_getElem? (i := 420) (by decide +kernel))) rfl
theorem t_421 : (Cond.instanceMethod ({ cls := "LayeredPage$Layer", name := "liftCells", desc := "()V" } : MethodName)) ∈ TT := TT_in (List.mem_append_right _ (List.mem_of_getElem? (i := 421) (by decide +kernel))) rfl
theorem t_422 : (Cond.selects "LayeredPage$Layer" ({ cls := "LayeredPage$Layer", name := "liftCells", desc := "()V" } : MethodName) ({ cls := "LayeredPage$Layer", name := "liftCells", desc := "()V" } : MethodName)) ∈ TT := TT_in (List.mem_append_right _ (List.mem_of_getElem? (i := 422) (by decide +kernel))) rfl
set_option maxRecDepth 100000 in
theorem t_423 : (Cond.code ({ cls := "LayeredPage$Layer", name := "liftCells", desc := "()V" } : MethodName) prog_7_method_8_code (3 : Nat) (Option.none : Option FieldType)) ∈ TT := TT_in (List.mem_append_right _ (List.mem_of_getElem? (i := 423) (rfl))) rfl
theorem t_424 : (Cond.methodLink "LayeredPage$Layer" (46 : Nat) ({ cls := "java/lang/System", name := "arraycopy", desc := "(Ljava/lang/Object;ILjava/lang/Object;II)V" } : MethodName)) ∈ TT := TT_in (List.mem_append_right _ (List.mem_of_getElem? (i := 424) (by decide +kernel))) rfl
theorem t_425 : (Cond.static ({ cls := "java/lang/System", name := "arraycopy", desc := "(Ljava/lang/Object;ILjava/lang/Object;II)V" } : MethodName)) ∈ TT := TT_in (List.mem_append_right _ (List.mem_of_getElem? (i := 425) (by decide +kernel))) rfl
theorem t_426 : (Cond.native ({ cls := "java/lang/System", name := "arraycopy", desc := "(Ljava/lang/Object;ILjava/lang/Object;II)V" } : MethodName)) ∈ TT := TT_in (List.mem_append_right _ (List.mem_of_getElem? (i := 426) (by decide +kernel))) rfl
theorem t_427 : (Cond.methodLink "LayeredPage$Layer" (52 : Nat) ({ cls := "LayeredPage$Layer", name := "liftLine", desc := "(III)V" } : MethodName)) ∈ TT := TT_in (List.mem_append_right _ (List.mem_of_getElem? (i := 427) (by decide +kernel))) rfl
theorem t_429 : (Cond.instanceMethod ({ cls := "LayeredPage$Layer", name := "liftLine", desc := "(III)V" } : MethodName)) ∈ TT := TT_in (List.mem_append_right _ (List.mem_of_getElem? (i := 429) (by decide +kernel))) rfl
set_option maxRecDepth 100000 in
theorem t_430 : (Cond.code ({ cls := "LayeredPage$Layer", name := "liftLine", desc := "(III)V" } : MethodName) prog_7_method_9_code (9 : Nat) (Option.none : Option FieldType)) ∈ TT := TT_in (List.mem_append_right _ (List.mem_of_getElem? (i := 430) (rfl))) rfl
theorem t_431 : (Cond.methodLink "LayeredPage$DocumentWriter" (110 : Nat) ({ cls := "LayeredPage$Layer", name := "codeCoefficients", desc := "(ILLayeredPage$Coder;)V" } : MethodName)) ∈ TT := TT_in (List.mem_append_right _ (List.mem_of_getElem? (i := 431) (by decide +kernel))) rfl
theorem t_432 : (Cond.instanceMethod ({ cls := "LayeredPage$Layer", name := "codeCoefficients", desc := "(ILLayeredPage$Coder;)V" } : MethodName)) ∈ TT := TT_in (List.mem_append_right _ (List.mem_of_getElem? (i := 432) (by decide +kernel))) rfl
theorem t_433 : (Cond.selects "LayeredPage$Layer" ({ cls := "LayeredPage$Layer", name := "codeCoefficients", desc := "(ILLayeredPage$Coder;)V" } : MethodName) ({ cls := "LayeredPage$Layer", name := "codeCoefficients", desc := "(ILLayeredPage$Coder;)V" } : MethodName)) ∈ TT := TT_in (List.mem_append_right _ (List.mem_of_getElem? (i := 433) (by decide +kernel))) rfl
set_option maxRecDepth 100000 in
theorem t_434 : (Cond.code ({ cls := "LayeredPage$Layer", name := "codeCoefficients", desc := "(ILLayeredPage$Coder;)V" } : MethodName) prog_7_method_12_code (5 : Nat) (Option.none : Option FieldType)) ∈ TT := TT_in (List.mem_append_right _ (List.mem_of_getElem? (i := 434) (rfl))) rfl
theorem t_435 : (Cond.methodLink "LayeredPage$Layer" (67 : Nat) ({ cls := "LayeredPage$Layer", name := "codePlaneBit", desc := "(IILLayeredPage$Coder;)V" } : MethodName)) ∈ TT := TT_in (List.mem_append_right _ (List.mem_of_getElem? (i := 435) (by decide +kernel))) rfl
theorem t_437 : (Cond.instanceMethod ({ cls := "LayeredPage$Layer", name := "codePlaneBit", desc := "(IILLayeredPage$Coder;)V" } : MethodName)) ∈ TT := TT_in (List.mem_append_right _ (List.mem_of_getElem? (i := 437) (by decide +kernel))) rfl
set_option maxRecDepth 100000 in
theorem t_438 : (Cond.code ({ cls := "LayeredPage$Layer", name := "codePlaneBit", desc := "(IILLayeredPage$Coder;)V" } : MethodName) prog_7_method_13_code (7 : Nat) (Option.none : Option FieldType)) ∈ TT := TT_in (List.mem_append_right _ (List.mem_of_getElem? (i := 438) (rfl))) rfl
theorem t_439 : (Cond.methodLink "LayeredPage$Layer" (71 : Nat) ({ cls := "java/lang/Math", name := "abs", desc := "(I)I" } : MethodName)) ∈ TT := TT_in (List.mem_append_right _ (List.mem_of_getElem? (i := 439) (by decide +kernel))) rfl
theorem t_440 : (Cond.static ({ cls := "java/lang/Math", name := "abs", desc := "(I)I" } : MethodName)) ∈ TT := TT_in (List.mem_append_right _ (List.mem_of_getElem? (i := 440) (by decide +kernel))) rfl
set_option maxRecDepth 100000 in
theorem t_441 : (Cond.code ({ cls := "java/lang/Math", name := "abs", desc := "(I)I" } : MethodName) prog_13_method_59_code (1 : Nat) (Option.some FieldType.int)) ∈ TT := TT_in (List.mem_append_right _ (List.mem_of_getElem? (i := 441) (rfl))) rfl
theorem t_442 : (Cond.methodLink "LayeredPage$Layer" (75 : Nat) ({ cls := "LayeredPage$Coder", name := "code", desc := "(II)I" } : MethodName)) ∈ TT := TT_in (List.mem_append_right _ (List.mem_of_getElem? (i := 442) (by decide +kernel))) rfl
theorem t_443 : (Cond.methodLink "LayeredPage$Layer" (80 : Nat) ({ cls := "LayeredPage$Layer", name := "begunNeighbours", desc := "(I)I" } : MethodName)) ∈ TT := TT_in (List.mem_append_right _ (List.mem_of_getElem? (i := 443) (by decide +kernel))) rfl
theorem t_445 : (Cond.instanceMethod ({ cls := "LayeredPage$Layer", name := "begunNeighbours", desc := "(I)I" } : MethodName)) ∈ TT := TT_in (List.mem_append_right _ (List.mem_of_getElem? (i := 445) (by decide +kernel))) rfl
set_option maxRecDepth 100000 in
theorem t_446 : (Cond.code ({ cls := "LayeredPage$Layer", name := "begunNeighbours", desc := "(I)I" } : MethodName) prog_7_method_14_code (4 : Nat) (Option.some FieldType.int)) ∈ TT := TT_in (List.mem_append_right _ (List.mem_of_getElem? (i := 446) (rfl))) rfl
theorem t_447 : (Cond.methodLink "LayeredPageLaw" (39 : Nat) ({ cls := "LayeredPage", name := "length", desc := "()I" } : MethodName)) ∈ TT := TT_in (List.mem_append_right _ (List.mem_of_getElem? (i := 447) (by decide +kernel))) rfl
theorem t_448 : (Cond.instanceMethod ({ cls := "LayeredPage", name := "length", desc := "()I" } : MethodName)) ∈ TT := TT_in (List.mem_append_right _ (List.mem_of_getElem? (i := 448) (by decide +kernel))) rfl
theorem t_449 : (Cond.selects "LayeredPage" ({ cls := "LayeredPage", name := "length", desc := "()I" } : MethodName) ({ cls := "LayeredPage", name := "length", desc := "()I" } : MethodName)) ∈ TT := TT_in (List.mem_append_right _ (List.mem_of_getElem? (i := 449) (by decide +kernel))) rfl
set_option maxRecDepth 100000 in
theorem t_450 : (Cond.code ({ cls := "LayeredPage", name := "length", desc := "()I" } : MethodName) prog_1_method_7_code (1 : Nat) (Option.some FieldType.int)) ∈ TT := TT_in (List.mem_append_right _ (List.mem_of_getElem? (i := 450) (rfl))) rfl
theorem t_451 : (Cond.methodLink "LayeredPageLaw" (44 : Nat) ({ cls := "LayeredPage", name := "octet", desc := "(I)I" } : MethodName)) ∈ TT := TT_in (List.mem_append_right _ (List.mem_of_getElem? (i := 451) (by decide +kernel))) rfl
theorem t_452 : (Cond.instanceMethod ({ cls := "LayeredPage", name := "octet", desc := "(I)I" } : MethodName)) ∈ TT := TT_in (List.mem_append_right _ (List.mem_of_getElem? (i := 452) (by decide +kernel))) rfl
theorem t_453 : (Cond.selects "LayeredPage" ({ cls := "LayeredPage", name := "octet", desc := "(I)I" } : MethodName) ({ cls := "LayeredPage", name := "octet", desc := "(I)I" } : MethodName)) ∈ TT := TT_in (List.mem_append_right _ (List.mem_of_getElem? (i := 453) (by decide +kernel))) rfl
set_option maxRecDepth 100000 in
theorem t_454 : (Cond.code ({ cls := "LayeredPage", name := "octet", desc := "(I)I" } : MethodName) prog_1_method_8_code (2 : Nat) (Option.some FieldType.int)) ∈ TT := TT_in (List.mem_append_right _ (List.mem_of_getElem? (i := 454) (rfl))) rfl
theorem t_455 : (Cond.methodLink "LayeredPage" (101 : Nat) ({ cls := "LayeredPage$Octets", name := "at", desc := "(I)I" } : MethodName)) ∈ TT := TT_in (List.mem_append_right _ (List.mem_of_getElem? (i := 455) (by decide +kernel))) rfl
theorem t_456 : (Cond.instanceMethod ({ cls := "LayeredPage$Octets", name := "at", desc := "(I)I" } : MethodName)) ∈ TT := TT_in (List.mem_append_right _ (List.mem_of_getElem? (i := 456) (by decide +kernel))) rfl
theorem t_457 : (Cond.selects "LayeredPage$Octets" ({ cls := "LayeredPage$Octets", name := "at", desc := "(I)I" } : MethodName) ({ cls := "LayeredPage$Octets", name := "at", desc := "(I)I" } : MethodName)) ∈ TT := TT_in (List.mem_append_right _ (List.mem_of_getElem? (i := 457) (by decide +kernel))) rfl
set_option maxRecDepth 100000 in
theorem t_458 : (Cond.code ({ cls := "LayeredPage$Octets", name := "at", desc := "(I)I" } : MethodName) prog_8_method_2_code (2 : Nat) (Option.some FieldType.int)) ∈ TT := TT_in (List.mem_append_right _ (List.mem_of_getElem? (i := 458) (rfl))) rfl
theorem t_459 : (Cond.methodLink "LayeredPageLaw" (48 : Nat) ({ cls := "LayeredPage", name := "alter", desc := "(II)Z" } : MethodName)) ∈ TT := TT_in (List.mem_append_right _ (List.mem_of_getElem? (i := 459) (by decide +kernel))) rfl
theorem t_460 : (Cond.instanceMethod ({ cls := "LayeredPage", name := "alter", desc := "(II)Z" } : MethodName)) ∈ TT := TT_in (List.mem_append_right _ (List.mem_of_getElem? (i := 460) (by decide +kernel))) rfl
theorem t_461 : (Cond.selects "LayeredPage" ({ cls := "LayeredPage", name := "alter", desc := "(II)Z" } : MethodName) ({ cls := "LayeredPage", name := "alter", desc := "(II)Z" } : MethodName)) ∈ TT := TT_in (List.mem_append_right _ (List.mem_of_getElem? (i := 461) (by decide +kernel))) rfl
set_option maxRecDepth 100000 in
theorem t_462 : (Cond.code ({ cls := "LayeredPage", name := "alter", desc := "(II)Z" } : MethodName) prog_1_method_9_code (3 : Nat) (Option.some FieldType.boolean)) ∈ TT := TT_in (List.mem_append_right _ (List.mem_of_getElem? (i := 462) (rfl))) rfl
theorem t_463 : (Cond.methodLink "LayeredPage" (105 : Nat) ({ cls := "LayeredPage$Octets", name := "set", desc := "(II)V" } : MethodName)) ∈ TT := TT_in (List.mem_append_right _ (List.mem_of_getElem? (i := 463) (by decide +kernel))) rfl
theorem t_464 : (Cond.methodLink "LayeredPageLaw" (53 : Nat) ({ cls := "LayeredPage", name := "cut", desc := "(I)Z" } : MethodName)) ∈ TT := TT_in (List.mem_append_right _ (List.mem_of_getElem? (i := 464) (by decide +kernel))) rfl
theorem t_465 : (Cond.instanceMethod ({ cls := "LayeredPage", name := "cut", desc := "(I)Z" } : MethodName)) ∈ TT := TT_in (List.mem_append_right _ (List.mem_of_getElem? (i := 465) (by decide +kernel))) rfl
theorem t_466 : (Cond.selects "LayeredPage" ({ cls := "LayeredPage", name := "cut", desc := "(I)Z" } : MethodName) ({ cls := "LayeredPage", name := "cut", desc := "(I)Z" } : MethodName)) ∈ TT := TT_in (List.mem_append_right _ (List.mem_of_getElem? (i := 466) (by decide +kernel))) rfl
set_option maxRecDepth 100000 in
theorem t_467 : (Cond.code ({ cls := "LayeredPage", name := "cut", desc := "(I)Z" } : MethodName) prog_1_method_10_code (2 : Nat) (Option.some FieldType.boolean)) ∈ TT := TT_in (List.mem_append_right _ (List.mem_of_getElem? (i := 467) (rfl))) rfl
theorem t_468 : (Cond.methodLink "LayeredPage" (109 : Nat) ({ cls := "LayeredPage$Octets", name := "keep", desc := "(I)V" } : MethodName)) ∈ TT := TT_in (List.mem_append_right _ (List.mem_of_getElem? (i := 468) (by decide +kernel))) rfl
theorem t_469 : (Cond.methodLink "LayeredPageLaw" (58 : Nat) ({ cls := "LayeredPage", name := "decode", desc := "()I" } : MethodName)) ∈ TT := TT_in (List.mem_append_right _ (List.mem_of_getElem? (i := 469) (by decide +kernel))) rfl
theorem t_470 : (Cond.instanceMethod ({ cls := "LayeredPage", name := "decode", desc := "()I" } : MethodName)) ∈ TT := TT_in (List.mem_append_right _ (List.mem_of_getElem? (i := 470) (by decide +kernel))) rfl
theorem t_471 : (Cond.selects "LayeredPage" ({ cls := "LayeredPage", name := "decode", desc := "()I" } : MethodName) ({ cls := "LayeredPage", name := "decode", desc := "()I" } : MethodName)) ∈ TT := TT_in (List.mem_append_right _ (List.mem_of_getElem? (i := 471) (by decide +kernel))) rfl
set_option maxRecDepth 100000 in
theorem t_472 : (Cond.code ({ cls := "LayeredPage", name := "decode", desc := "()I" } : MethodName) prog_1_method_11_code (3 : Nat) (Option.some FieldType.int)) ∈ TT := TT_in (List.mem_append_right _ (List.mem_of_getElem? (i := 472) (rfl))) rfl
theorem t_473 : (Cond.methodLink "LayeredPage" (113 : Nat) ({ cls := "LayeredPage$DocumentReader", name := "read", desc := "(LLayeredPage$Octets;LLayeredPage$Page;)I" } : MethodName)) ∈ TT := TT_in (List.mem_append_right _ (List.mem_of_getElem? (i := 473) (by decide +kernel))) rfl
theorem t_474 : (Cond.instanceMethod ({ cls := "LayeredPage$DocumentReader", name := "read", desc := "(LLayeredPage$Octets;LLayeredPage$Page;)I" } : MethodName)) ∈ TT := TT_in (List.mem_append_right _ (List.mem_of_getElem? (i := 474) (by decide +kernel))) rfl
theorem t_475 : (Cond.selects "LayeredPage$DocumentReader" ({ cls := "LayeredPage$DocumentReader", name := "read", desc := "(LLayeredPage$Octets;LLayeredPage$Page;)I" } : MethodName) ({ cls := "LayeredPage$DocumentReader", name := "read", desc := "(LLayeredPage$Octets;LLayeredPage$Page;)I" } : MethodName)) ∈ TT := TT_in (List.mem_append_right _ (List.mem_of_getElem? (i := 475) (by decide +kernel))) rfl
set_option maxRecDepth 100000 in
theorem t_476 : (Cond.code ({ cls := "LayeredPage$DocumentReader", name := "read", desc := "(LLayeredPage$Octets;LLayeredPage$Page;)I" } : MethodName) prog_5_method_2_code (9 : Nat) (Option.some FieldType.int)) ∈ TT := TT_in (List.mem_append_right _ (List.mem_of_getElem? (i := 476) (rfl))) rfl
theorem t_477 : (Cond.methodLink "LayeredPage$DocumentReader" (18 : Nat) ({ cls := "LayeredPage$Page", name := "makeEmpty", desc := "()V" } : MethodName)) ∈ TT := TT_in (List.mem_append_right _ (List.mem_of_getElem? (i := 477) (by decide +kernel))) rfl
theorem t_478 : (Cond.methodLink "LayeredPage$DocumentReader" (23 : Nat) ({ cls := "LayeredPage$Octets", name := "at", desc := "(I)I" } : MethodName)) ∈ TT := TT_in (List.mem_append_right _ (List.mem_of_getElem? (i := 478) (by decide +kernel))) rfl
theorem t_479 : (Cond.methodLink "LayeredPage$DocumentReader" (33 : Nat) ({ cls := "LayeredPage$Octets", name := "chunkSize", desc := "(I)I" } : MethodName)) ∈ TT := TT_in (List.mem_append_right _ (List.mem_of_getElem? (i := 479) (by decide +kernel))) rfl
theorem t_480 : (Cond.instanceMethod ({ cls := "LayeredPage$Octets", name := "chunkSize", desc := "(I)I" } : MethodName)) ∈ TT := TT_in (List.mem_append_right _ (List.mem_of_getElem? (i := 480) (by decide +kernel))) rfl
theorem t_481 : (Cond.selects "LayeredPage$Octets" ({ cls := "LayeredPage$Octets", name := "chunkSize", desc := "(I)I" } : MethodName) ({ cls := "LayeredPage$Octets", name := "chunkSize", desc := "(I)I" } : MethodName)) ∈ TT := TT_in (List.mem_append_right _ (List.mem_of_getElem? (i := 481) (by decide +kernel))) rfl
set_option maxRecDepth 100000 in
theorem t_482 : (Cond.code ({ cls := "LayeredPage$Octets", name := "chunkSize", desc := "(I)I" } : MethodName) prog_8_method_9_code (3 : Nat) (Option.some FieldType.int)) ∈ TT := TT_in (List.mem_append_right _ (List.mem_of_getElem? (i := 482) (rfl))) rfl
theorem t_483 : (Cond.methodLink "LayeredPage$Octets" (36 : Nat) ({ cls := "LayeredPage$Octets", name := "at", desc := "(I)I" } : MethodName)) ∈ TT := TT_in (List.mem_append_right _ (List.mem_of_getElem? (i := 483) (by decide +kernel))) rfl
theorem t_484 : (Cond.methodLink "LayeredPage$DocumentReader" (36 : Nat) ({ cls := "LayeredPage$DocumentReader", name := "readShape", desc := "(LLayeredPage$Octets;IILLayeredPage$Page;)I" } : MethodName)) ∈ TT := TT_in (List.mem_append_right _ (List.mem_of_getElem? (i := 484) (by decide +kernel))) rfl
theorem t_486 : (Cond.instanceMethod ({ cls := "LayeredPage$DocumentReader", name := "readShape", desc := "(LLayeredPage$Octets;IILLayeredPage$Page;)I" } : MethodName)) ∈ TT := TT_in (List.mem_append_right _ (List.mem_of_getElem? (i := 486) (by decide +kernel))) rfl
set_option maxRecDepth 100000 in
theorem t_487 : (Cond.code ({ cls := "LayeredPage$DocumentReader", name := "readShape", desc := "(LLayeredPage$Octets;IILLayeredPage$Page;)I" } : MethodName) prog_5_method_3_code (9 : Nat) (Option.some FieldType.int)) ∈ TT := TT_in (List.mem_append_right _ (List.mem_of_getElem? (i := 487) (rfl))) rfl
theorem q_488 : (Cond.methodLinkNest "LayeredPage$DocumentReader" (57 : Nat) ({ cls := "LayeredPage", name := "isShapeSide", desc := "(I)Z" } : MethodName) "LayeredPage") ∈ lw_tbl := List.mem_append_right _ (List.mem_of_getElem? (i := 488) (by decide +kernel))
theorem t_489 : (Cond.methodLink "LayeredPage$DocumentReader" (61 : Nat) ({ cls := "LayeredPage$Page", name := "addShape", desc := "(JIII)I" } : MethodName)) ∈ TT := TT_in (List.mem_append_right _ (List.mem_of_getElem? (i := 489) (by decide +kernel))) rfl
theorem t_490 : (Cond.methodLink "LayeredPage$DocumentReader" (69 : Nat) ({ cls := "LayeredPage$CodeReader", name := "begin", desc := "([III)V" } : MethodName)) ∈ TT := TT_in (List.mem_append_right _ (List.mem_of_getElem? (i := 490) (by decide +kernel))) rfl
theorem t_491 : (Cond.instanceMethod ({ cls := "LayeredPage$CodeReader", name := "begin", desc := "([III)V" } : MethodName)) ∈ TT := TT_in (List.mem_append_right _ (List.mem_of_getElem? (i := 491) (by decide +kernel))) rfl
theorem t_492 : (Cond.selects "LayeredPage$CodeReader" ({ cls := "LayeredPage$CodeReader", name := "begin", desc := "([III)V" } : MethodName) ({ cls := "LayeredPage$CodeReader", name := "begin", desc := "([III)V" } : MethodName)) ∈ TT := TT_in (List.mem_append_right _ (List.mem_of_getElem? (i := 492) (by decide +kernel))) rfl
set_option maxRecDepth 100000 in
theorem t_493 : (Cond.code ({ cls := "LayeredPage$CodeReader", name := "begin", desc := "([III)V" } : MethodName) prog_2_method_2_code (5 : Nat) (Option.none : Option FieldType)) ∈ TT := TT_in (List.mem_append_right _ (List.mem_of_getElem? (i := 493) (rfl))) rfl
theorem t_494 : (Cond.methodLink "LayeredPage$CodeReader" (26 : Nat) ({ cls := "LayeredPage$CodeReader", name := "restart", desc := "()V" } : MethodName)) ∈ TT := TT_in (List.mem_append_right _ (List.mem_of_getElem? (i := 494) (by decide +kernel))) rfl
theorem t_495 : (Cond.sameMethod "LayeredPage$CodeReader" "LayeredPage$Coder" "restart" "()V") ∈ TT := TT_in (List.mem_append_right _ (List.mem_of_getElem? (i := 495) (by decide +kernel))) rfl
theorem t_496 : (Cond.selects "LayeredPage$CodeReader" ({ cls := "LayeredPage$CodeReader", name := "restart", desc := "()V" } : MethodName) ({ cls := "LayeredPage$Coder", name := "restart", desc := "()V" } : MethodName)) ∈ TT := TT_in (List.mem_append_right _ (List.mem_of_getElem? (i := 496) (by decide +kernel))) rfl
theorem t_497 : (Cond.methodLink "LayeredPage$CodeReader" (29 : Nat) ({ cls := "java/lang/Math", name := "min", desc := "(II)I" } : MethodName)) ∈ TT := TT_in (List.mem_append_right _ (List.mem_of_getElem? (i := 497) (by decide +kernel))) rfl
theorem t_498 : (Cond.methodLink "LayeredPage$CodeReader" (35 : Nat) ({ cls := "LayeredPage$CodeReader", name := "shift", desc := "()V" } : MethodName)) ∈ TT := TT_in (List.mem_append_right _ (List.mem_of_getElem? (i := 498) (by decide +kernel))) rfl
theorem t_499 : (Cond.methodLink "LayeredPage$DocumentReader" (73 : Nat) ({ cls := "LayeredPage$Page", name := "codeShape", desc := "(ILLayeredPage$Coder;)V" } : MethodName)) ∈ TT := TT_in (List.mem_append_right _ (List.mem_of_getElem? (i := 499) (by decide +kernel))) rfl
theorem t_500 : (Cond.methodLink "LayeredPage$DocumentReader" (40 : Nat) ({ cls := "LayeredPage$DocumentReader", name := "readPlacings", desc := "(LLayeredPage$Octets;IILLayeredPage$Page;)I" } : MethodName)) ∈ TT := TT_in (List.mem_append_right _ (List.mem_of_getElem? (i := 500) (by decide +kernel))) rfl
theorem t_502 : (Cond.instanceMethod ({ cls := "LayeredPage$DocumentReader", name := "readPlacings", desc := "(LLayeredPage$Octets;IILLayeredPage$Page;)I" } : MethodName)) ∈ TT := TT_in (List.mem_append_right _ (List.mem_of_getElem? (i := 502) (by decide +kernel))) rfl
set_option maxRecDepth 100000 in
theorem t_503 : (Cond.code ({ cls := "LayeredPage$DocumentReader", name := "readPlacings", desc := "(LLayeredPage$Octets;IILLayeredPage$Page;)I" } : MethodName) prog_5_method_4_code (6 : Nat) (Option.some FieldType.int)) ∈ TT := TT_in (List.mem_append_right _ (List.mem_of_getElem? (i := 503) (rfl))) rfl
theorem t_504 : (Cond.methodLink "LayeredPage$DocumentReader" (80 : Nat) ({ cls := "LayeredPage$Page", name := "hasShape", desc := "(I)Z" } : MethodName)) ∈ TT := TT_in (List.mem_append_right _ (List.mem_of_getElem? (i := 504) (by decide +kernel))) rfl
theorem t_505 : (Cond.methodLink "LayeredPage$DocumentReader" (83 : Nat) ({ cls := "LayeredPage$Page", name := "addPlacing", desc := "(II)I" } : MethodName)) ∈ TT := TT_in (List.mem_append_right _ (List.mem_of_getElem? (i := 505) (by decide +kernel))) rfl
theorem t_506 : (Cond.methodLink "LayeredPage$DocumentReader" (50 : Nat) ({ cls := "LayeredPage$DocumentReader", name := "readLayer", desc := "(LLayeredPage$Octets;IILLayeredPage$Layer;)I" } : MethodName)) ∈ TT := TT_in (List.mem_append_right _ (List.mem_of_getElem? (i := 506) (by decide +kernel))) rfl
theorem t_508 : (Cond.instanceMethod ({ cls := "LayeredPage$DocumentReader", name := "readLayer", desc := "(LLayeredPage$Octets;IILLayeredPage$Layer;)I" } : MethodName)) ∈ TT := TT_in (List.mem_append_right _ (List.mem_of_getElem? (i := 508) (by decide +kernel))) rfl
set_option maxRecDepth 100000 in
theorem t_509 : (Cond.code ({ cls := "LayeredPage$DocumentReader", name := "readLayer", desc := "(LLayeredPage$Octets;IILLayeredPage$Layer;)I" } : MethodName) prog_5_method_5_code (5 : Nat) (Option.some FieldType.int)) ∈ TT := TT_in (List.mem_append_right _ (List.mem_of_getElem? (i := 509) (rfl))) rfl
theorem t_510 : (Cond.methodLink "LayeredPage$DocumentReader" (93 : Nat) ({ cls := "LayeredPage$Layer", name := "codeCoefficients", desc := "(ILLayeredPage$Coder;)V" } : MethodName)) ∈ TT := TT_in (List.mem_append_right _ (List.mem_of_getElem? (i := 510) (by decide +kernel))) rfl
theorem t_511 : (Cond.methodLink "LayeredPage$DocumentReader" (96 : Nat) ({ cls := "LayeredPage$Layer", name := "undoCoefficients", desc := "()V" } : MethodName)) ∈ TT := TT_in (List.mem_append_right _ (List.mem_of_getElem? (i := 511) (by decide +kernel))) rfl
theorem t_512 : (Cond.instanceMethod ({ cls := "LayeredPage$Layer", name := "undoCoefficients", desc := "()V" } : MethodName)) ∈ TT := TT_in (List.mem_append_right _ (List.mem_of_getElem? (i := 512) (by decide +kernel))) rfl
theorem t_513 : (Cond.selects "LayeredPage$Layer" ({ cls := "LayeredPage$Layer", name := "undoCoefficients", desc := "()V" } : MethodName) ({ cls := "LayeredPage$Layer", name := "undoCoefficients", desc := "()V" } : MethodName)) ∈ TT := TT_in (List.mem_append_right _ (List.mem_of_getElem? (i := 513) (by decide +kernel))) rfl
set_option maxRecDepth 100000 in
theorem t_514 : (Cond.code ({ cls := "LayeredPage$Layer", name := "undoCoefficients", desc := "()V" } : MethodName) prog_7_method_10_code (3 : Nat) (Option.none : Option FieldType)) ∈ TT := TT_in (List.mem_append_right _ (List.mem_of_getElem? (i := 514) (rfl))) rfl
theorem t_515 : (Cond.methodLink "LayeredPage$Layer" (56 : Nat) ({ cls := "LayeredPage$Layer", name := "undoLine", desc := "(III)V" } : MethodName)) ∈ TT := TT_in (List.mem_append_right _ (List.mem_of_getElem? (i := 515) (by decide +kernel))) rfl
theorem t_517 : (Cond.instanceMethod ({ cls := "LayeredPage$Layer", name := "undoLine", desc := "(III)V" } : MethodName)) ∈ TT := TT_in (List.mem_append_right _ (List.mem_of_getElem? (i := 517) (by decide +kernel))) rfl
set_option maxRecDepth 100000 in
theorem t_518 : (Cond.code ({ cls := "LayeredPage$Layer", name := "undoLine", desc := "(III)V" } : MethodName) prog_7_method_11_code (8 : Nat) (Option.none : Option FieldType)) ∈ TT := TT_in (List.mem_append_right _ (List.mem_of_getElem? (i := 518) (rfl))) rfl
theorem t_519 : (Cond.methodLink "LayeredPage$Layer" (59 : Nat) ({ cls := "java/lang/Math", name := "min", desc := "(II)I" } : MethodName)) ∈ TT := TT_in (List.mem_append_right _ (List.mem_of_getElem? (i := 519) (by decide +kernel))) rfl
theorem t_520 : (Cond.methodLink "LayeredPage$Layer" (64 : Nat) ({ cls := "java/lang/Math", name := "max", desc := "(II)I" } : MethodName)) ∈ TT := TT_in (List.mem_append_right _ (List.mem_of_getElem? (i := 520) (by decide +kernel))) rfl
theorem t_521 : (Cond.methodLink "LayeredPageLaw" (62 : Nat) ({ cls := "LayeredPage", name := "pixel", desc := "(II)I" } : MethodName)) ∈ TT := TT_in (List.mem_append_right _ (List.mem_of_getElem? (i := 521) (by decide +kernel))) rfl
theorem t_522 : (Cond.instanceMethod ({ cls := "LayeredPage", name := "pixel", desc := "(II)I" } : MethodName)) ∈ TT := TT_in (List.mem_append_right _ (List.mem_of_getElem? (i := 522) (by decide +kernel))) rfl
theorem t_523 : (Cond.selects "LayeredPage" ({ cls := "LayeredPage", name := "pixel", desc := "(II)I" } : MethodName) ({ cls := "LayeredPage", name := "pixel", desc := "(II)I" } : MethodName)) ∈ TT := TT_in (List.mem_append_right _ (List.mem_of_getElem? (i := 523) (by decide +kernel))) rfl
set_option maxRecDepth 100000 in
theorem t_524 : (Cond.code ({ cls := "LayeredPage", name := "pixel", desc := "(II)I" } : MethodName) prog_1_method_12_code (3 : Nat) (Option.some FieldType.int)) ∈ TT := TT_in (List.mem_append_right _ (List.mem_of_getElem? (i := 524) (rfl))) rfl
theorem t_525 : (Cond.methodLink "LayeredPage" (117 : Nat) ({ cls := "LayeredPage$Page", name := "isInked", desc := "(II)Z" } : MethodName)) ∈ TT := TT_in (List.mem_append_right _ (List.mem_of_getElem? (i := 525) (by decide +kernel))) rfl
theorem t_526 : (Cond.instanceMethod ({ cls := "LayeredPage$Page", name := "isInked", desc := "(II)Z" } : MethodName)) ∈ TT := TT_in (List.mem_append_right _ (List.mem_of_getElem? (i := 526) (by decide +kernel))) rfl
theorem t_527 : (Cond.selects "LayeredPage$Page" ({ cls := "LayeredPage$Page", name := "isInked", desc := "(II)Z" } : MethodName) ({ cls := "LayeredPage$Page", name := "isInked", desc := "(II)Z" } : MethodName)) ∈ TT := TT_in (List.mem_append_right _ (List.mem_of_getElem? (i := 527) (by decide +kernel))) rfl
set_option maxRecDepth 100000 in
theorem t_528 : (Cond.code ({ cls := "LayeredPage$Page", name := "isInked", desc := "(II)Z" } : MethodName) prog_9_method_7_code (6 : Nat) (Option.some FieldType.boolean)) ∈ TT := TT_in (List.mem_append_right _ (List.mem_of_getElem? (i := 528) (rfl))) rfl
theorem t_529 : (Cond.methodLink "LayeredPage" (124 : Nat) ({ cls := "LayeredPage$Layer", name := "cellAt", desc := "(II)I" } : MethodName)) ∈ TT := TT_in (List.mem_append_right _ (List.mem_of_getElem? (i := 529) (by decide +kernel))) rfl
theorem t_530 : (Cond.instanceMethod ({ cls := "LayeredPage$Layer", name := "cellAt", desc := "(II)I" } : MethodName)) ∈ TT := TT_in (List.mem_append_right _ (List.mem_of_getElem? (i := 530) (by decide +kernel))) rfl
theorem t_531 : (Cond.selects "LayeredPage$Layer" ({ cls := "LayeredPage$Layer", name := "cellAt", desc := "(II)I" } : MethodName) ({ cls := "LayeredPage$Layer", name := "cellAt", desc := "(II)I" } : MethodName)) ∈ TT := TT_in (List.mem_append_right _ (List.mem_of_getElem? (i := 531) (by decide +kernel))) rfl
set_option maxRecDepth 100000 in
theorem t_532 : (Cond.code ({ cls := "LayeredPage$Layer", name := "cellAt", desc := "(II)I" } : MethodName) prog_7_method_5_code (3 : Nat) (Option.some FieldType.int)) ∈ TT := TT_in (List.mem_append_right _ (List.mem_of_getElem? (i := 532) (rfl))) rfl
theorem t_533 : (Cond.methodLink "LayeredPage$Layer" (38 : Nat) ({ cls := "LayeredPage$Layer", name := "hasCell", desc := "(II)Z" } : MethodName)) ∈ TT := TT_in (List.mem_append_right _ (List.mem_of_getElem? (i := 533) (by decide +kernel))) rfl
theorem t_534 : (Cond.methodLink "LayeredPageLaw" (67 : Nat) ({ cls := "LayeredPage", name := "inked", desc := "(II)Z" } : MethodName)) ∈ TT := TT_in (List.mem_append_right _ (List.mem_of_getElem? (i := 534) (by decide +kernel))) rfl
theorem t_535 : (Cond.instanceMethod ({ cls := "LayeredPage", name := "inked", desc := "(II)Z" } : MethodName)) ∈ TT := TT_in (List.mem_append_right _ (List.mem_of_getElem? (i := 535) (by decide +kernel))) rfl
theorem t_536 : (Cond.selects "LayeredPage" ({ cls := "LayeredPage", name := "inked", desc := "(II)Z" } : MethodName) ({ cls := "LayeredPage", name := "inked", desc := "(II)Z" } : MethodName)) ∈ TT := TT_in (List.mem_append_right _ (List.mem_of_getElem? (i := 536) (by decide +kernel))) rfl
set_option maxRecDepth 100000 in
theorem t_537 : (Cond.code ({ cls := "LayeredPage", name := "inked", desc := "(II)Z" } : MethodName) prog_1_method_13_code (3 : Nat) (Option.some FieldType.boolean)) ∈ TT := TT_in (List.mem_append_right _ (List.mem_of_getElem? (i := 537) (rfl))) rfl
theorem t_538 : (Cond.methodLink "LayeredPageLaw" (71 : Nat) ({ cls := "LayeredPage", name := "cell", desc := "(III)I" } : MethodName)) ∈ TT := TT_in (List.mem_append_right _ (List.mem_of_getElem? (i := 538) (by decide +kernel))) rfl
theorem t_539 : (Cond.instanceMethod ({ cls := "LayeredPage", name := "cell", desc := "(III)I" } : MethodName)) ∈ TT := TT_in (List.mem_append_right _ (List.mem_of_getElem? (i := 539) (by decide +kernel))) rfl
theorem t_540 : (Cond.selects "LayeredPage" ({ cls := "LayeredPage", name := "cell", desc := "(III)I" } : MethodName) ({ cls := "LayeredPage", name := "cell", desc := "(III)I" } : MethodName)) ∈ TT := TT_in (List.mem_append_right _ (List.mem_of_getElem? (i := 540) (by decide +kernel))) rfl
set_option maxRecDepth 100000 in
theorem t_541 : (Cond.code ({ cls := "LayeredPage", name := "cell", desc := "(III)I" } : MethodName) prog_1_method_14_code (5 : Nat) (Option.some FieldType.int)) ∈ TT := TT_in (List.mem_append_right _ (List.mem_of_getElem? (i := 541) (rfl))) rfl
theorem t_542 : (Cond.methodLink "LayeredPage" (130 : Nat) ({ cls := "LayeredPage", name := "pictureLayer", desc := "(I)LLayeredPage$Layer;" } : MethodName)) ∈ TT := TT_in (List.mem_append_right _ (List.mem_of_getElem? (i := 542) (by decide +kernel))) rfl
theorem t_544 : (Cond.instanceMethod ({ cls := "LayeredPage", name := "pictureLayer", desc := "(I)LLayeredPage$Layer;" } : MethodName)) ∈ TT := TT_in (List.mem_append_right _ (List.mem_of_getElem? (i := 544) (by decide +kernel))) rfl
set_option maxRecDepth 100000 in
theorem t_545 : (Cond.code ({ cls := "LayeredPage", name := "pictureLayer", desc := "(I)LLayeredPage$Layer;" } : MethodName) prog_1_method_19_code (2 : Nat) (Option.some (FieldType.object "LayeredPage$Layer"))) ∈ TT := TT_in (List.mem_append_right _ (List.mem_of_getElem? (i := 545) (rfl))) rfl
theorem t_546 : (Cond.methodLink "LayeredPageLaw" (75 : Nat) ({ cls := "LayeredPage", name := "coefficient", desc := "(III)I" } : MethodName)) ∈ TT := TT_in (List.mem_append_right _ (List.mem_of_getElem? (i := 546) (by decide +kernel))) rfl
theorem t_547 : (Cond.instanceMethod ({ cls := "LayeredPage", name := "coefficient", desc := "(III)I" } : MethodName)) ∈ TT := TT_in (List.mem_append_right _ (List.mem_of_getElem? (i := 547) (by decide +kernel))) rfl
theorem t_548 : (Cond.selects "LayeredPage" ({ cls := "LayeredPage", name := "coefficient", desc := "(III)I" } : MethodName) ({ cls := "LayeredPage", name := "coefficient", desc := "(III)I" } : MethodName)) ∈ TT := TT_in (List.mem_append_right _ (List.mem_of_getElem? (i := 548) (by decide +kernel))) rfl
set_option maxRecDepth 100000 in
theorem t_549 : (Cond.code ({ cls := "LayeredPage", name := "coefficient", desc := "(III)I" } : MethodName) prog_1_method_15_code (5 : Nat) (Option.some FieldType.int)) ∈ TT := TT_in (List.mem_append_right _ (List.mem_of_getElem? (i := 549) (rfl))) rfl
theorem t_550 : (Cond.methodLink "LayeredPage" (133 : Nat) ({ cls := "LayeredPage$Layer", name := "coefficientAt", desc := "(II)I" } : MethodName)) ∈ TT := TT_in (List.mem_append_right _ (List.mem_of_getElem? (i := 550) (by decide +kernel))) rfl
theorem t_551 : (Cond.instanceMethod ({ cls := "LayeredPage$Layer", name := "coefficientAt", desc := "(II)I" } : MethodName)) ∈ TT := TT_in (List.mem_append_right _ (List.mem_of_getElem? (i := 551) (by decide +kernel))) rfl
theorem t_552 : (Cond.selects "LayeredPage$Layer" ({ cls := "LayeredPage$Layer", name := "coefficientAt", desc := "(II)I" } : MethodName) ({ cls := "LayeredPage$Layer", name := "coefficientAt", desc := "(II)I" } : MethodName)) ∈ TT := TT_in (List.mem_append_right _ (List.mem_of_getElem? (i := 552) (by decide +kernel))) rfl
set_option maxRecDepth 100000 in
theorem t_553 : (Cond.code ({ cls := "LayeredPage$Layer", name := "coefficientAt", desc := "(II)I" } : MethodName) prog_7_method_6_code (3 : Nat) (Option.some FieldType.int)) ∈ TT := TT_in (List.mem_append_right _ (List.mem_of_getElem? (i := 553) (rfl))) rfl
theorem t_554 : (Cond.methodLink "LayeredPageLaw" (79 : Nat) ({ cls := "LayeredPage", name := "shapes", desc := "()I" } : MethodName)) ∈ TT := TT_in (List.mem_append_right _ (List.mem_of_getElem? (i := 554) (by decide +kernel))) rfl
theorem t_555 : (Cond.instanceMethod ({ cls := "LayeredPage", name := "shapes", desc := "()I" } : MethodName)) ∈ TT := TT_in (List.mem_append_right _ (List.mem_of_getElem? (i := 555) (by decide +kernel))) rfl
theorem t_556 : (Cond.selects "LayeredPage" ({ cls := "LayeredPage", name := "shapes", desc := "()I" } : MethodName) ({ cls := "LayeredPage", name := "shapes", desc := "()I" } : MethodName)) ∈ TT := TT_in (List.mem_append_right _ (List.mem_of_getElem? (i := 556) (by decide +kernel))) rfl
set_option maxRecDepth 100000 in
theorem t_557 : (Cond.code ({ cls := "LayeredPage", name := "shapes", desc := "()I" } : MethodName) prog_1_method_16_code (1 : Nat) (Option.some FieldType.int)) ∈ TT := TT_in (List.mem_append_right _ (List.mem_of_getElem? (i := 557) (rfl))) rfl
theorem t_558 : (Cond.methodLink "LayeredPageLaw" (83 : Nat) ({ cls := "LayeredPage", name := "glyph", desc := "(I)J" } : MethodName)) ∈ TT := TT_in (List.mem_append_right _ (List.mem_of_getElem? (i := 558) (by decide +kernel))) rfl
theorem t_559 : (Cond.instanceMethod ({ cls := "LayeredPage", name := "glyph", desc := "(I)J" } : MethodName)) ∈ TT := TT_in (List.mem_append_right _ (List.mem_of_getElem? (i := 559) (by decide +kernel))) rfl
theorem t_560 : (Cond.selects "LayeredPage" ({ cls := "LayeredPage", name := "glyph", desc := "(I)J" } : MethodName) ({ cls := "LayeredPage", name := "glyph", desc := "(I)J" } : MethodName)) ∈ TT := TT_in (List.mem_append_right _ (List.mem_of_getElem? (i := 560) (by decide +kernel))) rfl
set_option maxRecDepth 100000 in
theorem t_561 : (Cond.code ({ cls := "LayeredPage", name := "glyph", desc := "(I)J" } : MethodName) prog_1_method_17_code (2 : Nat) (Option.some FieldType.long)) ∈ TT := TT_in (List.mem_append_right _ (List.mem_of_getElem? (i := 561) (rfl))) rfl
theorem t_562 : (Cond.methodLink "LayeredPageLaw" (88 : Nat) ({ cls := "LayeredPage", name := "placings", desc := "()I" } : MethodName)) ∈ TT := TT_in (List.mem_append_right _ (List.mem_of_getElem? (i := 562) (by decide +kernel))) rfl
theorem t_563 : (Cond.instanceMethod ({ cls := "LayeredPage", name := "placings", desc := "()I" } : MethodName)) ∈ TT := TT_in (List.mem_append_right _ (List.mem_of_getElem? (i := 563) (by decide +kernel))) rfl
theorem t_564 : (Cond.selects "LayeredPage" ({ cls := "LayeredPage", name := "placings", desc := "()I" } : MethodName) ({ cls := "LayeredPage", name := "placings", desc := "()I" } : MethodName)) ∈ TT := TT_in (List.mem_append_right _ (List.mem_of_getElem? (i := 564) (by decide +kernel))) rfl
set_option maxRecDepth 100000 in
theorem t_565 : (Cond.code ({ cls := "LayeredPage", name := "placings", desc := "()I" } : MethodName) prog_1_method_18_code (1 : Nat) (Option.some FieldType.int)) ∈ TT := TT_in (List.mem_append_right _ (List.mem_of_getElem? (i := 565) (rfl))) rfl
theorem t_566 : (Cond.classLink "LayeredPageLaw" (10 : Nat) "LayeredPageModel") ∈ TT := TT_in (List.mem_append_right _ (List.mem_of_getElem? (i := 566) (by decide +kernel))) rfl
theorem t_567 : (Cond.instantiable "LayeredPageModel" (30 : Nat)) ∈ TT := TT_in (List.mem_append_right _ (List.mem_of_getElem? (i := 567) (by decide +kernel))) rfl
theorem t_568 : (Cond.methodLink "LayeredPageLaw" (12 : Nat) ({ cls := "LayeredPageModel", name := "<init>", desc := "()V" } : MethodName)) ∈ TT := TT_in (List.mem_append_right _ (List.mem_of_getElem? (i := 568) (by decide +kernel))) rfl
theorem t_569 : (Cond.instanceMethod ({ cls := "LayeredPageModel", name := "<init>", desc := "()V" } : MethodName)) ∈ TT := TT_in (List.mem_append_right _ (List.mem_of_getElem? (i := 569) (by decide +kernel))) rfl
set_option maxRecDepth 100000 in
theorem t_570 : (Cond.code ({ cls := "LayeredPageModel", name := "<init>", desc := "()V" } : MethodName) prog_12_method_1_code (1 : Nat) (Option.none : Option FieldType)) ∈ TT := TT_in (List.mem_append_right _ (List.mem_of_getElem? (i := 570) (rfl))) rfl
theorem t_571 : (Cond.methodLink "LayeredPageModel" (1 : Nat) ({ cls := "java/lang/Object", name := "<init>", desc := "()V" } : MethodName)) ∈ TT := TT_in (List.mem_append_right _ (List.mem_of_getElem? (i := 571) (by decide +kernel))) rfl
theorem t_572 : (Cond.fieldLink "LayeredPageModel" (7 : Nat) "LayeredPageModel" "bits" "[J") ∈ TT := TT_in (List.mem_append_right _ (List.mem_of_getElem? (i := 572) (by decide +kernel))) rfl
theorem t_573 : (Cond.fieldLink "LayeredPageModel" (13 : Nat) "LayeredPageModel" "wide" "[I") ∈ TT := TT_in (List.mem_append_right _ (List.mem_of_getElem? (i := 573) (by decide +kernel))) rfl
theorem t_574 : (Cond.fieldLink "LayeredPageModel" (17 : Nat) "LayeredPageModel" "high" "[I") ∈ TT := TT_in (List.mem_append_right _ (List.mem_of_getElem? (i := 574) (by decide +kernel))) rfl
theorem t_575 : (Cond.fieldLink "LayeredPageModel" (20 : Nat) "LayeredPageModel" "base" "[I") ∈ TT := TT_in (List.mem_append_right _ (List.mem_of_getElem? (i := 575) (by decide +kernel))) rfl
theorem t_576 : (Cond.fieldLink "LayeredPageModel" (79 : Nat) "LayeredPageModel" "drawn" "I") ∈ TT := TT_in (List.mem_append_right _ (List.mem_of_getElem? (i := 576) (by decide +kernel))) rfl
theorem t_577 : (Cond.fieldLink "LayeredPageModel" (23 : Nat) "LayeredPageModel" "placeShape" "[I") ∈ TT := TT_in (List.mem_append_right _ (List.mem_of_getElem? (i := 577) (by decide +kernel))) rfl
theorem t_578 : (Cond.fieldLink "LayeredPageModel" (26 : Nat) "LayeredPageModel" "placeAt" "[I") ∈ TT := TT_in (List.mem_append_right _ (List.mem_of_getElem? (i := 578) (by decide +kernel))) rfl
theorem t_579 : (Cond.fieldLink "LayeredPageModel" (87 : Nat) "LayeredPageModel" "placed" "I") ∈ TT := TT_in (List.mem_append_right _ (List.mem_of_getElem? (i := 579) (by decide +kernel))) rfl
theorem t_580 : (Cond.fieldLink "LayeredPageModel" (29 : Nat) "LayeredPageModel" "cells" "[I") ∈ TT := TT_in (List.mem_append_right _ (List.mem_of_getElem? (i := 580) (by decide +kernel))) rfl
theorem t_581 : (Cond.fieldLink "LayeredPageModel" (32 : Nat) "LayeredPageModel" "doc" "[I") ∈ TT := TT_in (List.mem_append_right _ (List.mem_of_getElem? (i := 581) (by decide +kernel))) rfl
theorem t_582 : (Cond.fieldLink "LayeredPageModel" (120 : Nat) "LayeredPageModel" "len" "I") ∈ TT := TT_in (List.mem_append_right _ (List.mem_of_getElem? (i := 582) (by decide +kernel))) rfl
theorem t_583 : (Cond.fieldLink "LayeredPageModel" (180 : Nat) "LayeredPageModel" "there" "Z") ∈ TT := TT_in (List.mem_append_right _ (List.mem_of_getElem? (i := 583) (by decide +kernel))) rfl
theorem t_584 : (Cond.fieldLink "LayeredPageModel" (35 : Nat) "LayeredPageModel" "seen" "[J") ∈ TT := TT_in (List.mem_append_right _ (List.mem_of_getElem? (i := 584) (by decide +kernel))) rfl
theorem t_585 : (Cond.fieldLink "LayeredPageModel" (183 : Nat) "LayeredPageModel" "seenShapes" "I") ∈ TT := TT_in (List.mem_append_right _ (List.mem_of_getElem? (i := 585) (by decide +kernel))) rfl
theorem t_586 : (Cond.fieldLink "LayeredPageModel" (38 : Nat) "LayeredPageModel" "putShape" "[I") ∈ TT := TT_in (List.mem_append_right _ (List.mem_of_getElem? (i := 586) (by decide +kernel))) rfl
theorem t_587 : (Cond.fieldLink "LayeredPageModel" (41 : Nat) "LayeredPageModel" "putAt" "[I") ∈ TT := TT_in (List.mem_append_right _ (List.mem_of_getElem? (i := 587) (by decide +kernel))) rfl
theorem t_588 : (Cond.fieldLink "LayeredPageModel" (186 : Nat) "LayeredPageModel" "puts" "I") ∈ TT := TT_in (List.mem_append_right _ (List.mem_of_getElem? (i := 588) (by decide +kernel))) rfl
theorem t_589 : (Cond.fieldLink "LayeredPageModel" (44 : Nat) "LayeredPageModel" "coef" "[I") ∈ TT := TT_in (List.mem_append_right _ (List.mem_of_getElem? (i := 589) (by decide +kernel))) rfl
theorem t_590 : (Cond.fieldLink "LayeredPageModel" (47 : Nat) "LayeredPageModel" "undone" "[I") ∈ TT := TT_in (List.mem_append_right _ (List.mem_of_getElem? (i := 590) (by decide +kernel))) rfl
theorem t_591 : (Cond.fieldLink "LayeredPageModel" (96 : Nat) "LayeredPageModel" "reading" "Z") ∈ TT := TT_in (List.mem_append_right _ (List.mem_of_getElem? (i := 591) (by decide +kernel))) rfl
theorem t_592 : (Cond.fieldLink "LayeredPageModel" (50 : Nat) "LayeredPageModel" "zeros" "[I") ∈ TT := TT_in (List.mem_append_right _ (List.mem_of_getElem? (i := 592) (by decide +kernel))) rfl
theorem t_593 : (Cond.fieldLink "LayeredPageModel" (53 : Nat) "LayeredPageModel" "ones" "[I") ∈ TT := TT_in (List.mem_append_right _ (List.mem_of_getElem? (i := 593) (by decide +kernel))) rfl
theorem t_594 : (Cond.fieldLink "LayeredPageModel" (101 : Nat) "LayeredPageModel" "width" "I") ∈ TT := TT_in (List.mem_append_right _ (List.mem_of_getElem? (i := 594) (by decide +kernel))) rfl
theorem t_595 : (Cond.fieldLink "LayeredPageModel" (104 : Nat) "LayeredPageModel" "scale" "I") ∈ TT := TT_in (List.mem_append_right _ (List.mem_of_getElem? (i := 595) (by decide +kernel))) rfl
theorem t_596 : (Cond.fieldLink "LayeredPageModel" (56 : Nat) "LayeredPageModel" "digit" "[I") ∈ TT := TT_in (List.mem_append_right _ (List.mem_of_getElem? (i := 596) (by decide +kernel))) rfl
theorem t_597 : (Cond.fieldLink "LayeredPageModel" (59 : Nat) "LayeredPageModel" "grid" "[I") ∈ TT := TT_in (List.mem_append_right _ (List.mem_of_getElem? (i := 597) (by decide +kernel))) rfl
theorem t_598 : (Cond.fieldLink "LayeredPageModel" (62 : Nat) "LayeredPageModel" "row" "[I") ∈ TT := TT_in (List.mem_append_right _ (List.mem_of_getElem? (i := 598) (by decide +kernel))) rfl
theorem t_599 : (Cond.fieldLink "LayeredPageModel" (65 : Nat) "LayeredPageModel" "next" "[I") ∈ TT := TT_in (List.mem_append_right _ (List.mem_of_getElem? (i := 599) (by decide +kernel))) rfl
theorem t_600 : (Cond.fieldLink "LayeredPageModel" (68 : Nat) "LayeredPageModel" "prefix" "[I") ∈ TT := TT_in (List.mem_append_right _ (List.mem_of_getElem? (i := 600) (by decide +kernel))) rfl
theorem t_601 : (Cond.fieldLink "LayeredPageModel" (71 : Nat) "LayeredPageModel" "minus" "[Z") ∈ TT := TT_in (List.mem_append_right _ (List.mem_of_getElem? (i := 601) (by decide +kernel))) rfl
theorem t_602 : (Cond.laysFinal "LayeredPageModel" "LayeredPageModel" "bits" "[J") ∈ TT := TT_in (List.mem_append_right _ (List.mem_of_getElem? (i := 602) (by decide +kernel))) rfl
theorem t_604 : (Cond.laysFinal "LayeredPageModel" "LayeredPageModel" "wide" "[I") ∈ TT := TT_in (List.mem_append_right _ (List.mem_of_getElem? (i := 604) (by decide +kernel))) rfl
theorem t_606 : (Cond.laysFinal "LayeredPageModel" "LayeredPageModel" "high" "[I") ∈ TT := TT_in (List.mem_append_right _ (List.mem_of_getElem? (i := 606) (by decide +kernel))) rfl
theorem t_608 : (Cond.laysFinal "LayeredPageModel" "LayeredPageModel" "base" "[I") ∈ TT := TT_in (List.mem_append_right _ (List.mem_of_getElem? (i := 608) (by decide +kernel))) rfl
theorem t_610 : (Cond.lays "LayeredPageModel" "LayeredPageModel" "drawn" "I") ∈ TT := TT_in (List.mem_append_right _ (List.mem_of_getElem? (i := 610) (by decide +kernel))) rfl
theorem t_612 : (Cond.laysFinal "LayeredPageModel" "LayeredPageModel" "placeShape" "[I") ∈ TT := TT_in (List.mem_append_right _ (List.mem_of_getElem? (i := 612) (by decide +kernel))) rfl
theorem t_614 : (Cond.laysFinal "LayeredPageModel" "LayeredPageModel" "placeAt" "[I") ∈ TT := TT_in (List.mem_append_right _ (List.mem_of_getElem? (i := 614) (by decide +kernel))) rfl
theorem t_616 : (Cond.lays "LayeredPageModel" "LayeredPageModel" "placed" "I") ∈ TT := TT_in (List.mem_append_right _ (List.mem_of_getElem? (i := 616) (by decide +kernel))) rfl
theorem t_618 : (Cond.laysFinal "LayeredPageModel" "LayeredPageModel" "cells" "[I") ∈ TT := TT_in (List.mem_append_right _ (List.mem_of_getElem? (i := 618) (by decide +kernel))) rfl
theorem t_620 : (Cond.laysFinal "LayeredPageModel" "LayeredPageModel" "doc" "[I") ∈ TT := TT_in (List.mem_append_right _ (List.mem_of_getElem? (i := 620) (by decide +kernel))) rfl
theorem t_622 : (Cond.lays "LayeredPageModel" "LayeredPageModel" "len" "I") ∈ TT := TT_in (List.mem_append_right _ (List.mem_of_getElem? (i := 622) (by decide +kernel))) rfl
theorem t_624 : (Cond.lays "LayeredPageModel" "LayeredPageModel" "there" "Z") ∈ TT := TT_in (List.mem_append_right _ (List.mem_of_getElem? (i := 624) (by decide +kernel))) rfl
theorem t_626 : (Cond.laysFinal "LayeredPageModel" "LayeredPageModel" "seen" "[J") ∈ TT := TT_in (List.mem_append_right _ (List.mem_of_getElem? (i := 626) (by decide +kernel))) rfl
theorem t_628 : (Cond.lays "LayeredPageModel" "LayeredPageModel" "seenShapes" "I") ∈ TT := TT_in (List.mem_append_right _ (List.mem_of_getElem? (i := 628) (by decide +kernel))) rfl
theorem t_630 : (Cond.laysFinal "LayeredPageModel" "LayeredPageModel" "putShape" "[I") ∈ TT := TT_in (List.mem_append_right _ (List.mem_of_getElem? (i := 630) (by decide +kernel))) rfl
theorem t_632 : (Cond.laysFinal "LayeredPageModel" "LayeredPageModel" "putAt" "[I") ∈ TT := TT_in (List.mem_append_right _ (List.mem_of_getElem? (i := 632) (by decide +kernel))) rfl
theorem t_634 : (Cond.lays "LayeredPageModel" "LayeredPageModel" "puts" "I") ∈ TT := TT_in (List.mem_append_right _ (List.mem_of_getElem? (i := 634) (by decide +kernel))) rfl
theorem t_636 : (Cond.laysFinal "LayeredPageModel" "LayeredPageModel" "coef" "[I") ∈ TT := TT_in (List.mem_append_right _ (List.mem_of_getElem? (i := 636) (by decide +kernel))) rfl
theorem t_638 : (Cond.laysFinal "LayeredPageModel" "LayeredPageModel" "undone" "[I") ∈ TT := TT_in (List.mem_append_right _ (List.mem_of_getElem? (i := 638) (by decide +kernel))) rfl
theorem t_640 : (Cond.lays "LayeredPageModel" "LayeredPageModel" "reading" "Z") ∈ TT := TT_in (List.mem_append_right _ (List.mem_of_getElem? (i := 640) (by decide +kernel))) rfl
theorem t_642 : (Cond.laysFinal "LayeredPageModel" "LayeredPageModel" "zeros" "[I") ∈ TT := TT_in (List.mem_append_right _ (List.mem_of_getElem? (i := 642) (by decide +kernel))) rfl
theorem t_644 : (Cond.laysFinal "LayeredPageModel" "LayeredPageModel" "ones" "[I") ∈ TT := TT_in (List.mem_append_right _ (List.mem_of_getElem? (i := 644) (by decide +kernel))) rfl
theorem t_646 : (Cond.lays "LayeredPageModel" "LayeredPageModel" "width" "I") ∈ TT := TT_in (List.mem_append_right _ (List.mem_of_getElem? (i := 646) (by decide +kernel))) rfl
theorem t_648 : (Cond.lays "LayeredPageModel" "LayeredPageModel" "scale" "I") ∈ TT := TT_in (List.mem_append_right _ (List.mem_of_getElem? (i := 648) (by decide +kernel))) rfl
theorem t_650 : (Cond.laysFinal "LayeredPageModel" "LayeredPageModel" "digit" "[I") ∈ TT := TT_in (List.mem_append_right _ (List.mem_of_getElem? (i := 650) (by decide +kernel))) rfl
theorem t_652 : (Cond.laysFinal "LayeredPageModel" "LayeredPageModel" "grid" "[I") ∈ TT := TT_in (List.mem_append_right _ (List.mem_of_getElem? (i := 652) (by decide +kernel))) rfl
theorem t_654 : (Cond.laysFinal "LayeredPageModel" "LayeredPageModel" "row" "[I") ∈ TT := TT_in (List.mem_append_right _ (List.mem_of_getElem? (i := 654) (by decide +kernel))) rfl
theorem t_656 : (Cond.laysFinal "LayeredPageModel" "LayeredPageModel" "next" "[I") ∈ TT := TT_in (List.mem_append_right _ (List.mem_of_getElem? (i := 656) (by decide +kernel))) rfl
theorem t_658 : (Cond.laysFinal "LayeredPageModel" "LayeredPageModel" "prefix" "[I") ∈ TT := TT_in (List.mem_append_right _ (List.mem_of_getElem? (i := 658) (by decide +kernel))) rfl
theorem t_660 : (Cond.laysFinal "LayeredPageModel" "LayeredPageModel" "minus" "[Z") ∈ TT := TT_in (List.mem_append_right _ (List.mem_of_getElem? (i := 660) (by decide +kernel))) rfl
theorem t_663 : (Cond.arrayClass FieldType.long) ∈ TT := TT_in (List.mem_append_right _ (List.mem_of_getElem? (i := 663) (by decide +kernel))) rfl
theorem t_664 : (Cond.arrayClass FieldType.boolean) ∈ TT := TT_in (List.mem_append_right _ (List.mem_of_getElem? (i := 664) (by decide +kernel))) rfl
theorem t_665 : (Cond.methodLink "LayeredPageLaw" (19 : Nat) ({ cls := "LayeredPageModel", name := "shape", desc := "(JIII)I" } : MethodName)) ∈ TT := TT_in (List.mem_append_right _ (List.mem_of_getElem? (i := 665) (by decide +kernel))) rfl
theorem t_666 : (Cond.instanceMethod ({ cls := "LayeredPageModel", name := "shape", desc := "(JIII)I" } : MethodName)) ∈ TT := TT_in (List.mem_append_right _ (List.mem_of_getElem? (i := 666) (by decide +kernel))) rfl
theorem t_667 : (Cond.selects "LayeredPageModel" ({ cls := "LayeredPageModel", name := "shape", desc := "(JIII)I" } : MethodName) ({ cls := "LayeredPageModel", name := "shape", desc := "(JIII)I" } : MethodName)) ∈ TT := TT_in (List.mem_append_right _ (List.mem_of_getElem? (i := 667) (by decide +kernel))) rfl
set_option maxRecDepth 100000 in
theorem t_668 : (Cond.code ({ cls := "LayeredPageModel", name := "shape", desc := "(JIII)I" } : MethodName) prog_12_method_4_code (8 : Nat) (Option.some FieldType.int)) ∈ TT := TT_in (List.mem_append_right _ (List.mem_of_getElem? (i := 668) (rfl))) rfl
theorem t_669 : (Cond.methodLink "LayeredPageModel" (75 : Nat) ({ cls := "LayeredPageModel", name := "outside", desc := "(II)Z" } : MethodName)) ∈ TT := TT_in (List.mem_append_right _ (List.mem_of_getElem? (i := 669) (by decide +kernel))) rfl
theorem t_670 : (Cond.static ({ cls := "LayeredPageModel", name := "outside", desc := "(II)Z" } : MethodName)) ∈ TT := TT_in (List.mem_append_right _ (List.mem_of_getElem? (i := 670) (by decide +kernel))) rfl
set_option maxRecDepth 100000 in
theorem t_671 : (Cond.code ({ cls := "LayeredPageModel", name := "outside", desc := "(II)Z" } : MethodName) prog_12_method_2_code (2 : Nat) (Option.some FieldType.boolean)) ∈ TT := TT_in (List.mem_append_right _ (List.mem_of_getElem? (i := 671) (rfl))) rfl
theorem t_672 : (Cond.methodLink "LayeredPageModel" (83 : Nat) ({ cls := "LayeredPageModel", name := "at", desc := "(JII)I" } : MethodName)) ∈ TT := TT_in (List.mem_append_right _ (List.mem_of_getElem? (i := 672) (by decide +kernel))) rfl
theorem t_673 : (Cond.static ({ cls := "LayeredPageModel", name := "at", desc := "(JII)I" } : MethodName)) ∈ TT := TT_in (List.mem_append_right _ (List.mem_of_getElem? (i := 673) (by decide +kernel))) rfl
set_option maxRecDepth 100000 in
theorem t_674 : (Cond.code ({ cls := "LayeredPageModel", name := "at", desc := "(JII)I" } : MethodName) prog_12_method_3_code (4 : Nat) (Option.some FieldType.int)) ∈ TT := TT_in (List.mem_append_right _ (List.mem_of_getElem? (i := 674) (rfl))) rfl
theorem t_675 : (Cond.methodLink "LayeredPageLaw" (24 : Nat) ({ cls := "LayeredPageModel", name := "place", desc := "(III)I" } : MethodName)) ∈ TT := TT_in (List.mem_append_right _ (List.mem_of_getElem? (i := 675) (by decide +kernel))) rfl
theorem t_676 : (Cond.instanceMethod ({ cls := "LayeredPageModel", name := "place", desc := "(III)I" } : MethodName)) ∈ TT := TT_in (List.mem_append_right _ (List.mem_of_getElem? (i := 676) (by decide +kernel))) rfl
theorem t_677 : (Cond.selects "LayeredPageModel" ({ cls := "LayeredPageModel", name := "place", desc := "(III)I" } : MethodName) ({ cls := "LayeredPageModel", name := "place", desc := "(III)I" } : MethodName)) ∈ TT := TT_in (List.mem_append_right _ (List.mem_of_getElem? (i := 677) (by decide +kernel))) rfl
set_option maxRecDepth 100000 in
theorem t_678 : (Cond.code ({ cls := "LayeredPageModel", name := "place", desc := "(III)I" } : MethodName) prog_12_method_5_code (4 : Nat) (Option.some FieldType.int)) ∈ TT := TT_in (List.mem_append_right _ (List.mem_of_getElem? (i := 678) (rfl))) rfl
theorem t_679 : (Cond.methodLink "LayeredPageLaw" (29 : Nat) ({ cls := "LayeredPageModel", name := "paint", desc := "(IIJ)Z" } : MethodName)) ∈ TT := TT_in (List.mem_append_right _ (List.mem_of_getElem? (i := 679) (by decide +kernel))) rfl
theorem t_680 : (Cond.instanceMethod ({ cls := "LayeredPageModel", name := "paint", desc := "(IIJ)Z" } : MethodName)) ∈ TT := TT_in (List.mem_append_right _ (List.mem_of_getElem? (i := 680) (by decide +kernel))) rfl
theorem t_681 : (Cond.selects "LayeredPageModel" ({ cls := "LayeredPageModel", name := "paint", desc := "(IIJ)Z" } : MethodName) ({ cls := "LayeredPageModel", name := "paint", desc := "(IIJ)Z" } : MethodName)) ∈ TT := TT_in (List.mem_append_right _ (List.mem_of_getElem? (i := 681) (by decide +kernel))) rfl
set_option maxRecDepth 100000 in
theorem t_682 : (Cond.code ({ cls := "LayeredPageModel", name := "paint", desc := "(IIJ)Z" } : MethodName) prog_12_method_7_code (7 : Nat) (Option.some FieldType.boolean)) ∈ TT := TT_in (List.mem_append_right _ (List.mem_of_getElem? (i := 682) (rfl))) rfl
theorem t_683 : (Cond.methodLink "LayeredPageModel" (90 : Nat) ({ cls := "LayeredPageModel", name := "side", desc := "(I)I" } : MethodName)) ∈ TT := TT_in (List.mem_append_right _ (List.mem_of_getElem? (i := 683) (by decide +kernel))) rfl
theorem t_684 : (Cond.static ({ cls := "LayeredPageModel", name := "side", desc := "(I)I" } : MethodName)) ∈ TT := TT_in (List.mem_append_right _ (List.mem_of_getElem? (i := 684) (by decide +kernel))) rfl
set_option maxRecDepth 100000 in
theorem t_685 : (Cond.code ({ cls := "LayeredPageModel", name := "side", desc := "(I)I" } : MethodName) prog_12_method_6_code (1 : Nat) (Option.some FieldType.int)) ∈ TT := TT_in (List.mem_append_right _ (List.mem_of_getElem? (i := 685) (rfl))) rfl
theorem t_686 : (Cond.constantLong "LayeredPageModel" (94 : Nat) (255 : Int64)) ∈ TT := TT_in (List.mem_append_right _ (List.mem_of_getElem? (i := 686) (by decide +kernel))) rfl
theorem t_687 : (Cond.methodLink "LayeredPageLaw" (33 : Nat) ({ cls := "LayeredPageModel", name := "clear", desc := "()V" } : MethodName)) ∈ TT := TT_in (List.mem_append_right _ (List.mem_of_getElem? (i := 687) (by decide +kernel))) rfl
theorem t_688 : (Cond.instanceMethod ({ cls := "LayeredPageModel", name := "clear", desc := "()V" } : MethodName)) ∈ TT := TT_in (List.mem_append_right _ (List.mem_of_getElem? (i := 688) (by decide +kernel))) rfl
theorem t_689 : (Cond.selects "LayeredPageModel" ({ cls := "LayeredPageModel", name := "clear", desc := "()V" } : MethodName) ({ cls := "LayeredPageModel", name := "clear", desc := "()V" } : MethodName)) ∈ TT := TT_in (List.mem_append_right _ (List.mem_of_getElem? (i := 689) (by decide +kernel))) rfl
set_option maxRecDepth 100000 in
theorem t_690 : (Cond.code ({ cls := "LayeredPageModel", name := "clear", desc := "()V" } : MethodName) prog_12_method_8_code (2 : Nat) (Option.none : Option FieldType)) ∈ TT := TT_in (List.mem_append_right _ (List.mem_of_getElem? (i := 690) (rfl))) rfl
theorem t_691 : (Cond.methodLink "LayeredPageLaw" (38 : Nat) ({ cls := "LayeredPageModel", name := "encode", desc := "(I)I" } : MethodName)) ∈ TT := TT_in (List.mem_append_right _ (List.mem_of_getElem? (i := 691) (by decide +kernel))) rfl
theorem t_692 : (Cond.instanceMethod ({ cls := "LayeredPageModel", name := "encode", desc := "(I)I" } : MethodName)) ∈ TT := TT_in (List.mem_append_right _ (List.mem_of_getElem? (i := 692) (by decide +kernel))) rfl
theorem t_693 : (Cond.selects "LayeredPageModel" ({ cls := "LayeredPageModel", name := "encode", desc := "(I)I" } : MethodName) ({ cls := "LayeredPageModel", name := "encode", desc := "(I)I" } : MethodName)) ∈ TT := TT_in (List.mem_append_right _ (List.mem_of_getElem? (i := 693) (by decide +kernel))) rfl
set_option maxRecDepth 100000 in
theorem t_694 : (Cond.code ({ cls := "LayeredPageModel", name := "encode", desc := "(I)I" } : MethodName) prog_12_method_26_code (4 : Nat) (Option.some FieldType.int)) ∈ TT := TT_in (List.mem_append_right _ (List.mem_of_getElem? (i := 694) (rfl))) rfl
theorem t_695 : (Cond.methodLink "LayeredPageModel" (123 : Nat) ({ cls := "LayeredPageModel", name := "put", desc := "(I)V" } : MethodName)) ∈ TT := TT_in (List.mem_append_right _ (List.mem_of_getElem? (i := 695) (by decide +kernel))) rfl
theorem t_697 : (Cond.instanceMethod ({ cls := "LayeredPageModel", name := "put", desc := "(I)V" } : MethodName)) ∈ TT := TT_in (List.mem_append_right _ (List.mem_of_getElem? (i := 697) (by decide +kernel))) rfl
set_option maxRecDepth 100000 in
theorem t_698 : (Cond.code ({ cls := "LayeredPageModel", name := "put", desc := "(I)V" } : MethodName) prog_12_method_14_code (2 : Nat) (Option.none : Option FieldType)) ∈ TT := TT_in (List.mem_append_right _ (List.mem_of_getElem? (i := 698) (rfl))) rfl
theorem t_699 : (Cond.methodLink "LayeredPageModel" (160 : Nat) ({ cls := "LayeredPageModel", name := "putShape", desc := "(I)V" } : MethodName)) ∈ TT := TT_in (List.mem_append_right _ (List.mem_of_getElem? (i := 699) (by decide +kernel))) rfl
theorem t_701 : (Cond.instanceMethod ({ cls := "LayeredPageModel", name := "putShape", desc := "(I)V" } : MethodName)) ∈ TT := TT_in (List.mem_append_right _ (List.mem_of_getElem? (i := 701) (by decide +kernel))) rfl
set_option maxRecDepth 100000 in
theorem t_702 : (Cond.code ({ cls := "LayeredPageModel", name := "putShape", desc := "(I)V" } : MethodName) prog_12_method_24_code (5 : Nat) (Option.none : Option FieldType)) ∈ TT := TT_in (List.mem_append_right _ (List.mem_of_getElem? (i := 702) (rfl))) rfl
theorem t_703 : (Cond.methodLink "LayeredPageModel" (140 : Nat) ({ cls := "LayeredPageModel", name := "open", desc := "(I)I" } : MethodName)) ∈ TT := TT_in (List.mem_append_right _ (List.mem_of_getElem? (i := 703) (by decide +kernel))) rfl
theorem t_705 : (Cond.instanceMethod ({ cls := "LayeredPageModel", name := "open", desc := "(I)I" } : MethodName)) ∈ TT := TT_in (List.mem_append_right _ (List.mem_of_getElem? (i := 705) (by decide +kernel))) rfl
set_option maxRecDepth 100000 in
theorem t_706 : (Cond.code ({ cls := "LayeredPageModel", name := "open", desc := "(I)I" } : MethodName) prog_12_method_23_code (2 : Nat) (Option.some FieldType.int)) ∈ TT := TT_in (List.mem_append_right _ (List.mem_of_getElem? (i := 706) (rfl))) rfl
theorem t_707 : (Cond.methodLink "LayeredPageModel" (107 : Nat) ({ cls := "LayeredPageModel", name := "begin", desc := "(Z)V" } : MethodName)) ∈ TT := TT_in (List.mem_append_right _ (List.mem_of_getElem? (i := 707) (by decide +kernel))) rfl
theorem t_709 : (Cond.instanceMethod ({ cls := "LayeredPageModel", name := "begin", desc := "(Z)V" } : MethodName)) ∈ TT := TT_in (List.mem_append_right _ (List.mem_of_getElem? (i := 709) (by decide +kernel))) rfl
set_option maxRecDepth 100000 in
theorem t_710 : (Cond.code ({ cls := "LayeredPageModel", name := "begin", desc := "(Z)V" } : MethodName) prog_12_method_9_code (3 : Nat) (Option.none : Option FieldType)) ∈ TT := TT_in (List.mem_append_right _ (List.mem_of_getElem? (i := 710) (rfl))) rfl
theorem t_711 : (Cond.constant "LayeredPageModel" (100 : Nat) (65536 : Int32)) ∈ TT := TT_in (List.mem_append_right _ (List.mem_of_getElem? (i := 711) (by decide +kernel))) rfl
theorem t_712 : (Cond.methodLink "LayeredPageModel" (143 : Nat) ({ cls := "LayeredPageModel", name := "walk", desc := "(JIIZJ)J" } : MethodName)) ∈ TT := TT_in (List.mem_append_right _ (List.mem_of_getElem? (i := 712) (by decide +kernel))) rfl
theorem t_714 : (Cond.instanceMethod ({ cls := "LayeredPageModel", name := "walk", desc := "(JIIZJ)J" } : MethodName)) ∈ TT := TT_in (List.mem_append_right _ (List.mem_of_getElem? (i := 714) (by decide +kernel))) rfl
set_option maxRecDepth 100000 in
theorem t_715 : (Cond.code ({ cls := "LayeredPageModel", name := "walk", desc := "(JIIZJ)J" } : MethodName) prog_12_method_16_code (14 : Nat) (Option.some FieldType.long)) ∈ TT := TT_in (List.mem_append_right _ (List.mem_of_getElem? (i := 715) (rfl))) rfl
theorem t_716 : (Cond.methodLink "LayeredPageModel" (127 : Nat) ({ cls := "LayeredPageModel", name := "code", desc := "(II)I" } : MethodName)) ∈ TT := TT_in (List.mem_append_right _ (List.mem_of_getElem? (i := 716) (by decide +kernel))) rfl
theorem t_718 : (Cond.instanceMethod ({ cls := "LayeredPageModel", name := "code", desc := "(II)I" } : MethodName)) ∈ TT := TT_in (List.mem_append_right _ (List.mem_of_getElem? (i := 718) (by decide +kernel))) rfl
set_option maxRecDepth 100000 in
theorem t_719 : (Cond.code ({ cls := "LayeredPageModel", name := "code", desc := "(II)I" } : MethodName) prog_12_method_13_code (6 : Nat) (Option.some FieldType.int)) ∈ TT := TT_in (List.mem_append_right _ (List.mem_of_getElem? (i := 719) (rfl))) rfl
theorem t_720 : (Cond.methodLink "LayeredPageModel" (111 : Nat) ({ cls := "LayeredPageModel", name := "units", desc := "()I" } : MethodName)) ∈ TT := TT_in (List.mem_append_right _ (List.mem_of_getElem? (i := 720) (by decide +kernel))) rfl
theorem t_722 : (Cond.instanceMethod ({ cls := "LayeredPageModel", name := "units", desc := "()I" } : MethodName)) ∈ TT := TT_in (List.mem_append_right _ (List.mem_of_getElem? (i := 722) (by decide +kernel))) rfl
set_option maxRecDepth 100000 in
theorem t_723 : (Cond.code ({ cls := "LayeredPageModel", name := "units", desc := "()I" } : MethodName) prog_12_method_12_code (3 : Nat) (Option.some FieldType.int)) ∈ TT := TT_in (List.mem_append_right _ (List.mem_of_getElem? (i := 723) (rfl))) rfl
theorem t_724 : (Cond.methodLink "LayeredPageModel" (115 : Nat) ({ cls := "LayeredPageModel", name := "shift", desc := "(II)V" } : MethodName)) ∈ TT := TT_in (List.mem_append_right _ (List.mem_of_getElem? (i := 724) (by decide +kernel))) rfl
theorem t_726 : (Cond.instanceMethod ({ cls := "LayeredPageModel", name := "shift", desc := "(II)V" } : MethodName)) ∈ TT := TT_in (List.mem_append_right _ (List.mem_of_getElem? (i := 726) (by decide +kernel))) rfl
set_option maxRecDepth 100000 in
theorem t_727 : (Cond.code ({ cls := "LayeredPageModel", name := "shift", desc := "(II)V" } : MethodName) prog_12_method_11_code (7 : Nat) (Option.none : Option FieldType)) ∈ TT := TT_in (List.mem_append_right _ (List.mem_of_getElem? (i := 727) (rfl))) rfl
theorem t_728 : (Cond.constant "LayeredPageModel" (119 : Nat) (32768 : Int32)) ∈ TT := TT_in (List.mem_append_right _ (List.mem_of_getElem? (i := 728) (by decide +kernel))) rfl
theorem t_729 : (Cond.methodLink "LayeredPageModel" (147 : Nat) ({ cls := "LayeredPageModel", name := "putCode", desc := "()V" } : MethodName)) ∈ TT := TT_in (List.mem_append_right _ (List.mem_of_getElem? (i := 729) (by decide +kernel))) rfl
theorem t_731 : (Cond.instanceMethod ({ cls := "LayeredPageModel", name := "putCode", desc := "()V" } : MethodName)) ∈ TT := TT_in (List.mem_append_right _ (List.mem_of_getElem? (i := 731) (by decide +kernel))) rfl
set_option maxRecDepth 100000 in
theorem t_732 : (Cond.code ({ cls := "LayeredPageModel", name := "putCode", desc := "()V" } : MethodName) prog_12_method_15_code (5 : Nat) (Option.none : Option FieldType)) ∈ TT := TT_in (List.mem_append_right _ (List.mem_of_getElem? (i := 732) (rfl))) rfl
theorem t_733 : (Cond.methodLink "LayeredPageModel" (150 : Nat) ({ cls := "LayeredPageModel", name := "close", desc := "(I)V" } : MethodName)) ∈ TT := TT_in (List.mem_append_right _ (List.mem_of_getElem? (i := 733) (by decide +kernel))) rfl
theorem t_735 : (Cond.instanceMethod ({ cls := "LayeredPageModel", name := "close", desc := "(I)V" } : MethodName)) ∈ TT := TT_in (List.mem_append_right _ (List.mem_of_getElem? (i := 735) (by decide +kernel))) rfl
set_option maxRecDepth 100000 in
theorem t_736 : (Cond.code ({ cls := "LayeredPageModel", name := "close", desc := "(I)V" } : MethodName) prog_12_method_22_code (2 : Nat) (Option.none : Option FieldType)) ∈ TT := TT_in (List.mem_append_right _ (List.mem_of_getElem? (i := 736) (rfl))) rfl
theorem t_737 : (Cond.methodLink "LayeredPageModel" (162 : Nat) ({ cls := "LayeredPageModel", name := "putLayer", desc := "(II)V" } : MethodName)) ∈ TT := TT_in (List.mem_append_right _ (List.mem_of_getElem? (i := 737) (by decide +kernel))) rfl
theorem t_739 : (Cond.instanceMethod ({ cls := "LayeredPageModel", name := "putLayer", desc := "(II)V" } : MethodName)) ∈ TT := TT_in (List.mem_append_right _ (List.mem_of_getElem? (i := 739) (by decide +kernel))) rfl
set_option maxRecDepth 100000 in
theorem t_740 : (Cond.code ({ cls := "LayeredPageModel", name := "putLayer", desc := "(II)V" } : MethodName) prog_12_method_25_code (5 : Nat) (Option.none : Option FieldType)) ∈ TT := TT_in (List.mem_append_right _ (List.mem_of_getElem? (i := 740) (rfl))) rfl
theorem t_741 : (Cond.methodLink "LayeredPageModel" (153 : Nat) ({ cls := "LayeredPageModel", name := "all", desc := "(IZZ)V" } : MethodName)) ∈ TT := TT_in (List.mem_append_right _ (List.mem_of_getElem? (i := 741) (by decide +kernel))) rfl
theorem t_743 : (Cond.instanceMethod ({ cls := "LayeredPageModel", name := "all", desc := "(IZZ)V" } : MethodName)) ∈ TT := TT_in (List.mem_append_right _ (List.mem_of_getElem? (i := 743) (by decide +kernel))) rfl
set_option maxRecDepth 100000 in
theorem t_744 : (Cond.code ({ cls := "LayeredPageModel", name := "all", desc := "(IZZ)V" } : MethodName) prog_12_method_21_code (6 : Nat) (Option.none : Option FieldType)) ∈ TT := TT_in (List.mem_append_right _ (List.mem_of_getElem? (i := 744) (rfl))) rfl
theorem t_745 : (Cond.methodLink "LayeredPageModel" (134 : Nat) ({ cls := "LayeredPageModel", name := "lift", desc := "(I)V" } : MethodName)) ∈ TT := TT_in (List.mem_append_right _ (List.mem_of_getElem? (i := 745) (by decide +kernel))) rfl
theorem t_747 : (Cond.instanceMethod ({ cls := "LayeredPageModel", name := "lift", desc := "(I)V" } : MethodName)) ∈ TT := TT_in (List.mem_append_right _ (List.mem_of_getElem? (i := 747) (by decide +kernel))) rfl
set_option maxRecDepth 100000 in
theorem t_748 : (Cond.code ({ cls := "LayeredPageModel", name := "lift", desc := "(I)V" } : MethodName) prog_12_method_19_code (5 : Nat) (Option.none : Option FieldType)) ∈ TT := TT_in (List.mem_append_right _ (List.mem_of_getElem? (i := 748) (rfl))) rfl
theorem t_749 : (Cond.methodLink "LayeredPageModel" (131 : Nat) ({ cls := "LayeredPageModel", name := "half", desc := "(I)I" } : MethodName)) ∈ TT := TT_in (List.mem_append_right _ (List.mem_of_getElem? (i := 749) (by decide +kernel))) rfl
theorem t_750 : (Cond.static ({ cls := "LayeredPageModel", name := "half", desc := "(I)I" } : MethodName)) ∈ TT := TT_in (List.mem_append_right _ (List.mem_of_getElem? (i := 750) (by decide +kernel))) rfl
set_option maxRecDepth 100000 in
theorem t_751 : (Cond.code ({ cls := "LayeredPageModel", name := "half", desc := "(I)I" } : MethodName) prog_12_method_18_code (1 : Nat) (Option.some FieldType.int)) ∈ TT := TT_in (List.mem_append_right _ (List.mem_of_getElem? (i := 751) (rfl))) rfl
theorem t_752 : (Cond.methodLink "LayeredPageModel" (137 : Nat) ({ cls := "LayeredPageModel", name := "drop", desc := "(I)V" } : MethodName)) ∈ TT := TT_in (List.mem_append_right _ (List.mem_of_getElem? (i := 752) (by decide +kernel))) rfl
theorem t_754 : (Cond.instanceMethod ({ cls := "LayeredPageModel", name := "drop", desc := "(I)V" } : MethodName)) ∈ TT := TT_in (List.mem_append_right _ (List.mem_of_getElem? (i := 754) (by decide +kernel))) rfl
set_option maxRecDepth 100000 in
theorem t_755 : (Cond.code ({ cls := "LayeredPageModel", name := "drop", desc := "(I)V" } : MethodName) prog_12_method_20_code (5 : Nat) (Option.none : Option FieldType)) ∈ TT := TT_in (List.mem_append_right _ (List.mem_of_getElem? (i := 755) (rfl))) rfl
theorem t_756 : (Cond.methodLink "LayeredPageModel" (157 : Nat) ({ cls := "LayeredPageModel", name := "planes", desc := "(II)V" } : MethodName)) ∈ TT := TT_in (List.mem_append_right _ (List.mem_of_getElem? (i := 756) (by decide +kernel))) rfl
theorem t_758 : (Cond.instanceMethod ({ cls := "LayeredPageModel", name := "planes", desc := "(II)V" } : MethodName)) ∈ TT := TT_in (List.mem_append_right _ (List.mem_of_getElem? (i := 758) (by decide +kernel))) rfl
set_option maxRecDepth 100000 in
theorem t_759 : (Cond.code ({ cls := "LayeredPageModel", name := "planes", desc := "(II)V" } : MethodName) prog_12_method_17_code (13 : Nat) (Option.none : Option FieldType)) ∈ TT := TT_in (List.mem_append_right _ (List.mem_of_getElem? (i := 759) (rfl))) rfl
theorem t_760 : (Cond.methodLink "LayeredPageLaw" (43 : Nat) ({ cls := "LayeredPageModel", name := "length", desc := "()I" } : MethodName)) ∈ TT := TT_in (List.mem_append_right _ (List.mem_of_getElem? (i := 760) (by decide +kernel))) rfl
theorem t_761 : (Cond.instanceMethod ({ cls := "LayeredPageModel", name := "length", desc := "()I" } : MethodName)) ∈ TT := TT_in (List.mem_append_right _ (List.mem_of_getElem? (i := 761) (by decide +kernel))) rfl
theorem t_762 : (Cond.selects "LayeredPageModel" ({ cls := "LayeredPageModel", name := "length", desc := "()I" } : MethodName) ({ cls := "LayeredPageModel", name := "length", desc := "()I" } : MethodName)) ∈ TT := TT_in (List.mem_append_right _ (List.mem_of_getElem? (i := 762) (by decide +kernel))) rfl
set_option maxRecDepth 100000 in
theorem t_763 : (Cond.code ({ cls := "LayeredPageModel", name := "length", desc := "()I" } : MethodName) prog_12_method_27_code (1 : Nat) (Option.some FieldType.int)) ∈ TT := TT_in (List.mem_append_right _ (List.mem_of_getElem? (i := 763) (rfl))) rfl
theorem t_764 : (Cond.methodLink "LayeredPageLaw" (47 : Nat) ({ cls := "LayeredPageModel", name := "octet", desc := "(I)I" } : MethodName)) ∈ TT := TT_in (List.mem_append_right _ (List.mem_of_getElem? (i := 764) (by decide +kernel))) rfl
theorem t_765 : (Cond.instanceMethod ({ cls := "LayeredPageModel", name := "octet", desc := "(I)I" } : MethodName)) ∈ TT := TT_in (List.mem_append_right _ (List.mem_of_getElem? (i := 765) (by decide +kernel))) rfl
theorem t_766 : (Cond.selects "LayeredPageModel" ({ cls := "LayeredPageModel", name := "octet", desc := "(I)I" } : MethodName) ({ cls := "LayeredPageModel", name := "octet", desc := "(I)I" } : MethodName)) ∈ TT := TT_in (List.mem_append_right _ (List.mem_of_getElem? (i := 766) (by decide +kernel))) rfl
set_option maxRecDepth 100000 in
theorem t_767 : (Cond.code ({ cls := "LayeredPageModel", name := "octet", desc := "(I)I" } : MethodName) prog_12_method_28_code (2 : Nat) (Option.some FieldType.int)) ∈ TT := TT_in (List.mem_append_right _ (List.mem_of_getElem? (i := 767) (rfl))) rfl
theorem t_768 : (Cond.methodLink "LayeredPageLaw" (52 : Nat) ({ cls := "LayeredPageModel", name := "alter", desc := "(II)Z" } : MethodName)) ∈ TT := TT_in (List.mem_append_right _ (List.mem_of_getElem? (i := 768) (by decide +kernel))) rfl
theorem t_769 : (Cond.instanceMethod ({ cls := "LayeredPageModel", name := "alter", desc := "(II)Z" } : MethodName)) ∈ TT := TT_in (List.mem_append_right _ (List.mem_of_getElem? (i := 769) (by decide +kernel))) rfl
theorem t_770 : (Cond.selects "LayeredPageModel" ({ cls := "LayeredPageModel", name := "alter", desc := "(II)Z" } : MethodName) ({ cls := "LayeredPageModel", name := "alter", desc := "(II)Z" } : MethodName)) ∈ TT := TT_in (List.mem_append_right _ (List.mem_of_getElem? (i := 770) (by decide +kernel))) rfl
set_option maxRecDepth 100000 in
theorem t_771 : (Cond.code ({ cls := "LayeredPageModel", name := "alter", desc := "(II)Z" } : MethodName) prog_12_method_29_code (3 : Nat) (Option.some FieldType.boolean)) ∈ TT := TT_in (List.mem_append_right _ (List.mem_of_getElem? (i := 771) (rfl))) rfl
theorem t_772 : (Cond.methodLink "LayeredPageLaw" (57 : Nat) ({ cls := "LayeredPageModel", name := "cut", desc := "(I)Z" } : MethodName)) ∈ TT := TT_in (List.mem_append_right _ (List.mem_of_getElem? (i := 772) (by decide +kernel))) rfl
theorem t_773 : (Cond.instanceMethod ({ cls := "LayeredPageModel", name := "cut", desc := "(I)Z" } : MethodName)) ∈ TT := TT_in (List.mem_append_right _ (List.mem_of_getElem? (i := 773) (by decide +kernel))) rfl
theorem t_774 : (Cond.selects "LayeredPageModel" ({ cls := "LayeredPageModel", name := "cut", desc := "(I)Z" } : MethodName) ({ cls := "LayeredPageModel", name := "cut", desc := "(I)Z" } : MethodName)) ∈ TT := TT_in (List.mem_append_right _ (List.mem_of_getElem? (i := 774) (by decide +kernel))) rfl
set_option maxRecDepth 100000 in
theorem t_775 : (Cond.code ({ cls := "LayeredPageModel", name := "cut", desc := "(I)Z" } : MethodName) prog_12_method_30_code (2 : Nat) (Option.some FieldType.boolean)) ∈ TT := TT_in (List.mem_append_right _ (List.mem_of_getElem? (i := 775) (rfl))) rfl
theorem t_776 : (Cond.methodLink "LayeredPageLaw" (61 : Nat) ({ cls := "LayeredPageModel", name := "decode", desc := "()I" } : MethodName)) ∈ TT := TT_in (List.mem_append_right _ (List.mem_of_getElem? (i := 776) (by decide +kernel))) rfl
theorem t_777 : (Cond.instanceMethod ({ cls := "LayeredPageModel", name := "decode", desc := "()I" } : MethodName)) ∈ TT := TT_in (List.mem_append_right _ (List.mem_of_getElem? (i := 777) (by decide +kernel))) rfl
theorem t_778 : (Cond.selects "LayeredPageModel" ({ cls := "LayeredPageModel", name := "decode", desc := "()I" } : MethodName) ({ cls := "LayeredPageModel", name := "decode", desc := "()I" } : MethodName)) ∈ TT := TT_in (List.mem_append_right _ (List.mem_of_getElem? (i := 778) (by decide +kernel))) rfl
set_option maxRecDepth 100000 in
theorem t_779 : (Cond.code ({ cls := "LayeredPageModel", name := "decode", desc := "()I" } : MethodName) prog_12_method_36_code (3 : Nat) (Option.some FieldType.int)) ∈ TT := TT_in (List.mem_append_right _ (List.mem_of_getElem? (i := 779) (rfl))) rfl
theorem t_780 : (Cond.methodLink "LayeredPageModel" (177 : Nat) ({ cls := "LayeredPageModel", name := "fault", desc := "()I" } : MethodName)) ∈ TT := TT_in (List.mem_append_right _ (List.mem_of_getElem? (i := 780) (by decide +kernel))) rfl
theorem t_782 : (Cond.instanceMethod ({ cls := "LayeredPageModel", name := "fault", desc := "()I" } : MethodName)) ∈ TT := TT_in (List.mem_append_right _ (List.mem_of_getElem? (i := 782) (by decide +kernel))) rfl
set_option maxRecDepth 100000 in
theorem t_783 : (Cond.code ({ cls := "LayeredPageModel", name := "fault", desc := "()I" } : MethodName) prog_12_method_35_code (3 : Nat) (Option.some FieldType.int)) ∈ TT := TT_in (List.mem_append_right _ (List.mem_of_getElem? (i := 783) (rfl))) rfl
theorem t_784 : (Cond.methodLink "LayeredPageModel" (174 : Nat) ({ cls := "LayeredPageModel", name := "chunkFault", desc := "(I)I" } : MethodName)) ∈ TT := TT_in (List.mem_append_right _ (List.mem_of_getElem? (i := 784) (by decide +kernel))) rfl
theorem t_786 : (Cond.instanceMethod ({ cls := "LayeredPageModel", name := "chunkFault", desc := "(I)I" } : MethodName)) ∈ TT := TT_in (List.mem_append_right _ (List.mem_of_getElem? (i := 786) (by decide +kernel))) rfl
set_option maxRecDepth 100000 in
theorem t_787 : (Cond.code ({ cls := "LayeredPageModel", name := "chunkFault", desc := "(I)I" } : MethodName) prog_12_method_34_code (6 : Nat) (Option.some FieldType.int)) ∈ TT := TT_in (List.mem_append_right _ (List.mem_of_getElem? (i := 787) (rfl))) rfl
theorem t_788 : (Cond.methodLink "LayeredPageModel" (165 : Nat) ({ cls := "LayeredPageModel", name := "chunkLength", desc := "(I)I" } : MethodName)) ∈ TT := TT_in (List.mem_append_right _ (List.mem_of_getElem? (i := 788) (by decide +kernel))) rfl
theorem t_790 : (Cond.instanceMethod ({ cls := "LayeredPageModel", name := "chunkLength", desc := "(I)I" } : MethodName)) ∈ TT := TT_in (List.mem_append_right _ (List.mem_of_getElem? (i := 790) (by decide +kernel))) rfl
set_option maxRecDepth 100000 in
theorem t_791 : (Cond.code ({ cls := "LayeredPageModel", name := "chunkLength", desc := "(I)I" } : MethodName) prog_12_method_31_code (2 : Nat) (Option.some FieldType.int)) ∈ TT := TT_in (List.mem_append_right _ (List.mem_of_getElem? (i := 791) (rfl))) rfl
theorem t_792 : (Cond.methodLink "LayeredPageModel" (168 : Nat) ({ cls := "LayeredPageModel", name := "before", desc := "(II)I" } : MethodName)) ∈ TT := TT_in (List.mem_append_right _ (List.mem_of_getElem? (i := 792) (by decide +kernel))) rfl
theorem t_794 : (Cond.instanceMethod ({ cls := "LayeredPageModel", name := "before", desc := "(II)I" } : MethodName)) ∈ TT := TT_in (List.mem_append_right _ (List.mem_of_getElem? (i := 794) (by decide +kernel))) rfl
set_option maxRecDepth 100000 in
theorem t_795 : (Cond.code ({ cls := "LayeredPageModel", name := "before", desc := "(II)I" } : MethodName) prog_12_method_32_code (5 : Nat) (Option.some FieldType.int)) ∈ TT := TT_in (List.mem_append_right _ (List.mem_of_getElem? (i := 795) (rfl))) rfl
theorem t_796 : (Cond.methodLink "LayeredPageModel" (171 : Nat) ({ cls := "LayeredPageModel", name := "placingsBefore", desc := "(I)I" } : MethodName)) ∈ TT := TT_in (List.mem_append_right _ (List.mem_of_getElem? (i := 796) (by decide +kernel))) rfl
theorem t_798 : (Cond.instanceMethod ({ cls := "LayeredPageModel", name := "placingsBefore", desc := "(I)I" } : MethodName)) ∈ TT := TT_in (List.mem_append_right _ (List.mem_of_getElem? (i := 798) (by decide +kernel))) rfl
set_option maxRecDepth 100000 in
theorem t_799 : (Cond.code ({ cls := "LayeredPageModel", name := "placingsBefore", desc := "(I)I" } : MethodName) prog_12_method_33_code (4 : Nat) (Option.some FieldType.int)) ∈ TT := TT_in (List.mem_append_right _ (List.mem_of_getElem? (i := 799) (rfl))) rfl
theorem t_800 : (Cond.methodLink "LayeredPageModel" (189 : Nat) ({ cls := "LayeredPageModel", name := "takeShape", desc := "(I)V" } : MethodName)) ∈ TT := TT_in (List.mem_append_right _ (List.mem_of_getElem? (i := 800) (by decide +kernel))) rfl
theorem t_802 : (Cond.instanceMethod ({ cls := "LayeredPageModel", name := "takeShape", desc := "(I)V" } : MethodName)) ∈ TT := TT_in (List.mem_append_right _ (List.mem_of_getElem? (i := 802) (by decide +kernel))) rfl
set_option maxRecDepth 100000 in
theorem t_803 : (Cond.code ({ cls := "LayeredPageModel", name := "takeShape", desc := "(I)V" } : MethodName) prog_12_method_37_code (5 : Nat) (Option.none : Option FieldType)) ∈ TT := TT_in (List.mem_append_right _ (List.mem_of_getElem? (i := 803) (rfl))) rfl
theorem t_804 : (Cond.methodLink "LayeredPageModel" (198 : Nat) ({ cls := "LayeredPageModel", name := "load", desc := "(II)V" } : MethodName)) ∈ TT := TT_in (List.mem_append_right _ (List.mem_of_getElem? (i := 804) (by decide +kernel))) rfl
theorem t_806 : (Cond.instanceMethod ({ cls := "LayeredPageModel", name := "load", desc := "(II)V" } : MethodName)) ∈ TT := TT_in (List.mem_append_right _ (List.mem_of_getElem? (i := 806) (by decide +kernel))) rfl
set_option maxRecDepth 100000 in
theorem t_807 : (Cond.code ({ cls := "LayeredPageModel", name := "load", desc := "(II)V" } : MethodName) prog_12_method_10_code (4 : Nat) (Option.none : Option FieldType)) ∈ TT := TT_in (List.mem_append_right _ (List.mem_of_getElem? (i := 807) (rfl))) rfl
theorem t_808 : (Cond.methodLink "LayeredPageModel" (192 : Nat) ({ cls := "LayeredPageModel", name := "takePlacings", desc := "(I)V" } : MethodName)) ∈ TT := TT_in (List.mem_append_right _ (List.mem_of_getElem? (i := 808) (by decide +kernel))) rfl
theorem t_810 : (Cond.instanceMethod ({ cls := "LayeredPageModel", name := "takePlacings", desc := "(I)V" } : MethodName)) ∈ TT := TT_in (List.mem_append_right _ (List.mem_of_getElem? (i := 810) (by decide +kernel))) rfl
set_option maxRecDepth 100000 in
theorem t_811 : (Cond.code ({ cls := "LayeredPageModel", name := "takePlacings", desc := "(I)V" } : MethodName) prog_12_method_38_code (3 : Nat) (Option.none : Option FieldType)) ∈ TT := TT_in (List.mem_append_right _ (List.mem_of_getElem? (i := 811) (rfl))) rfl
theorem t_812 : (Cond.methodLink "LayeredPageModel" (195 : Nat) ({ cls := "LayeredPageModel", name := "takeLayer", desc := "(II)V" } : MethodName)) ∈ TT := TT_in (List.mem_append_right _ (List.mem_of_getElem? (i := 812) (by decide +kernel))) rfl
theorem t_814 : (Cond.instanceMethod ({ cls := "LayeredPageModel", name := "takeLayer", desc := "(II)V" } : MethodName)) ∈ TT := TT_in (List.mem_append_right _ (List.mem_of_getElem? (i := 814) (by decide +kernel))) rfl
set_option maxRecDepth 100000 in
theorem t_815 : (Cond.code ({ cls := "LayeredPageModel", name := "takeLayer", desc := "(II)V" } : MethodName) prog_12_method_39_code (7 : Nat) (Option.none : Option FieldType)) ∈ TT := TT_in (List.mem_append_right _ (List.mem_of_getElem? (i := 815) (rfl))) rfl
theorem t_816 : (Cond.methodLink "LayeredPageLaw" (70 : Nat) ({ cls := "LayeredPageModel", name := "inked", desc := "(II)Z" } : MethodName)) ∈ TT := TT_in (List.mem_append_right _ (List.mem_of_getElem? (i := 816) (by decide +kernel))) rfl
theorem t_817 : (Cond.instanceMethod ({ cls := "LayeredPageModel", name := "inked", desc := "(II)Z" } : MethodName)) ∈ TT := TT_in (List.mem_append_right _ (List.mem_of_getElem? (i := 817) (by decide +kernel))) rfl
theorem t_818 : (Cond.selects "LayeredPageModel" ({ cls := "LayeredPageModel", name := "inked", desc := "(II)Z" } : MethodName) ({ cls := "LayeredPageModel", name := "inked", desc := "(II)Z" } : MethodName)) ∈ TT := TT_in (List.mem_append_right _ (List.mem_of_getElem? (i := 818) (by decide +kernel))) rfl
set_option maxRecDepth 100000 in
theorem t_819 : (Cond.code ({ cls := "LayeredPageModel", name := "inked", desc := "(II)Z" } : MethodName) prog_12_method_40_code (7 : Nat) (Option.some FieldType.boolean)) ∈ TT := TT_in (List.mem_append_right _ (List.mem_of_getElem? (i := 819) (rfl))) rfl
theorem t_820 : (Cond.methodLink "LayeredPageLaw" (74 : Nat) ({ cls := "LayeredPageModel", name := "cell", desc := "(III)I" } : MethodName)) ∈ TT := TT_in (List.mem_append_right _ (List.mem_of_getElem? (i := 820) (by decide +kernel))) rfl
theorem t_821 : (Cond.instanceMethod ({ cls := "LayeredPageModel", name := "cell", desc := "(III)I" } : MethodName)) ∈ TT := TT_in (List.mem_append_right _ (List.mem_of_getElem? (i := 821) (by decide +kernel))) rfl
theorem t_822 : (Cond.selects "LayeredPageModel" ({ cls := "LayeredPageModel", name := "cell", desc := "(III)I" } : MethodName) ({ cls := "LayeredPageModel", name := "cell", desc := "(III)I" } : MethodName)) ∈ TT := TT_in (List.mem_append_right _ (List.mem_of_getElem? (i := 822) (by decide +kernel))) rfl
set_option maxRecDepth 100000 in
theorem t_823 : (Cond.code ({ cls := "LayeredPageModel", name := "cell", desc := "(III)I" } : MethodName) prog_12_method_42_code (5 : Nat) (Option.some FieldType.int)) ∈ TT := TT_in (List.mem_append_right _ (List.mem_of_getElem? (i := 823) (rfl))) rfl
theorem t_824 : (Cond.methodLink "LayeredPageModel" (201 : Nat) ({ cls := "LayeredPageModel", name := "noCell", desc := "(III)Z" } : MethodName)) ∈ TT := TT_in (List.mem_append_right _ (List.mem_of_getElem? (i := 824) (by decide +kernel))) rfl
theorem t_826 : (Cond.instanceMethod ({ cls := "LayeredPageModel", name := "noCell", desc := "(III)Z" } : MethodName)) ∈ TT := TT_in (List.mem_append_right _ (List.mem_of_getElem? (i := 826) (by decide +kernel))) rfl
set_option maxRecDepth 100000 in
theorem t_827 : (Cond.code ({ cls := "LayeredPageModel", name := "noCell", desc := "(III)Z" } : MethodName) prog_12_method_41_code (4 : Nat) (Option.some FieldType.boolean)) ∈ TT := TT_in (List.mem_append_right _ (List.mem_of_getElem? (i := 827) (rfl))) rfl
theorem t_828 : (Cond.methodLink "LayeredPageLaw" (66 : Nat) ({ cls := "LayeredPageModel", name := "pixel", desc := "(II)I" } : MethodName)) ∈ TT := TT_in (List.mem_append_right _ (List.mem_of_getElem? (i := 828) (by decide +kernel))) rfl
theorem t_829 : (Cond.instanceMethod ({ cls := "LayeredPageModel", name := "pixel", desc := "(II)I" } : MethodName)) ∈ TT := TT_in (List.mem_append_right _ (List.mem_of_getElem? (i := 829) (by decide +kernel))) rfl
theorem t_830 : (Cond.selects "LayeredPageModel" ({ cls := "LayeredPageModel", name := "pixel", desc := "(II)I" } : MethodName) ({ cls := "LayeredPageModel", name := "pixel", desc := "(II)I" } : MethodName)) ∈ TT := TT_in (List.mem_append_right _ (List.mem_of_getElem? (i := 830) (by decide +kernel))) rfl
set_option maxRecDepth 100000 in
theorem t_831 : (Cond.code ({ cls := "LayeredPageModel", name := "pixel", desc := "(II)I" } : MethodName) prog_12_method_43_code (3 : Nat) (Option.some FieldType.int)) ∈ TT := TT_in (List.mem_append_right _ (List.mem_of_getElem? (i := 831) (rfl))) rfl
theorem t_832 : (Cond.methodLink "LayeredPageModel" (205 : Nat) ({ cls := "LayeredPageModel", name := "inked", desc := "(II)Z" } : MethodName)) ∈ TT := TT_in (List.mem_append_right _ (List.mem_of_getElem? (i := 832) (by decide +kernel))) rfl
theorem t_833 : (Cond.methodLink "LayeredPageModel" (208 : Nat) ({ cls := "LayeredPageModel", name := "cell", desc := "(III)I" } : MethodName)) ∈ TT := TT_in (List.mem_append_right _ (List.mem_of_getElem? (i := 833) (by decide +kernel))) rfl
theorem t_834 : (Cond.methodLink "LayeredPageLaw" (78 : Nat) ({ cls := "LayeredPageModel", name := "coefficient", desc := "(III)I" } : MethodName)) ∈ TT := TT_in (List.mem_append_right _ (List.mem_of_getElem? (i := 834) (by decide +kernel))) rfl
theorem t_835 : (Cond.instanceMethod ({ cls := "LayeredPageModel", name := "coefficient", desc := "(III)I" } : MethodName)) ∈ TT := TT_in (List.mem_append_right _ (List.mem_of_getElem? (i := 835) (by decide +kernel))) rfl
theorem t_836 : (Cond.selects "LayeredPageModel" ({ cls := "LayeredPageModel", name := "coefficient", desc := "(III)I" } : MethodName) ({ cls := "LayeredPageModel", name := "coefficient", desc := "(III)I" } : MethodName)) ∈ TT := TT_in (List.mem_append_right _ (List.mem_of_getElem? (i := 836) (by decide +kernel))) rfl
set_option maxRecDepth 100000 in
theorem t_837 : (Cond.code ({ cls := "LayeredPageModel", name := "coefficient", desc := "(III)I" } : MethodName) prog_12_method_44_code (4 : Nat) (Option.some FieldType.int)) ∈ TT := TT_in (List.mem_append_right _ (List.mem_of_getElem? (i := 837) (rfl))) rfl
theorem t_838 : (Cond.methodLink "LayeredPageLaw" (82 : Nat) ({ cls := "LayeredPageModel", name := "shapes", desc := "()I" } : MethodName)) ∈ TT := TT_in (List.mem_append_right _ (List.mem_of_getElem? (i := 838) (by decide +kernel))) rfl
theorem t_839 : (Cond.instanceMethod ({ cls := "LayeredPageModel", name := "shapes", desc := "()I" } : MethodName)) ∈ TT := TT_in (List.mem_append_right _ (List.mem_of_getElem? (i := 839) (by decide +kernel))) rfl
theorem t_840 : (Cond.selects "LayeredPageModel" ({ cls := "LayeredPageModel", name := "shapes", desc := "()I" } : MethodName) ({ cls := "LayeredPageModel", name := "shapes", desc := "()I" } : MethodName)) ∈ TT := TT_in (List.mem_append_right _ (List.mem_of_getElem? (i := 840) (by decide +kernel))) rfl
set_option maxRecDepth 100000 in
theorem t_841 : (Cond.code ({ cls := "LayeredPageModel", name := "shapes", desc := "()I" } : MethodName) prog_12_method_45_code (1 : Nat) (Option.some FieldType.int)) ∈ TT := TT_in (List.mem_append_right _ (List.mem_of_getElem? (i := 841) (rfl))) rfl
theorem t_842 : (Cond.methodLink "LayeredPageLaw" (87 : Nat) ({ cls := "LayeredPageModel", name := "glyph", desc := "(I)J" } : MethodName)) ∈ TT := TT_in (List.mem_append_right _ (List.mem_of_getElem? (i := 842) (by decide +kernel))) rfl
theorem t_843 : (Cond.instanceMethod ({ cls := "LayeredPageModel", name := "glyph", desc := "(I)J" } : MethodName)) ∈ TT := TT_in (List.mem_append_right _ (List.mem_of_getElem? (i := 843) (by decide +kernel))) rfl
theorem t_844 : (Cond.selects "LayeredPageModel" ({ cls := "LayeredPageModel", name := "glyph", desc := "(I)J" } : MethodName) ({ cls := "LayeredPageModel", name := "glyph", desc := "(I)J" } : MethodName)) ∈ TT := TT_in (List.mem_append_right _ (List.mem_of_getElem? (i := 844) (by decide +kernel))) rfl
set_option maxRecDepth 100000 in
theorem t_845 : (Cond.code ({ cls := "LayeredPageModel", name := "glyph", desc := "(I)J" } : MethodName) prog_12_method_46_code (2 : Nat) (Option.some FieldType.long)) ∈ TT := TT_in (List.mem_append_right _ (List.mem_of_getElem? (i := 845) (rfl))) rfl
theorem t_846 : (Cond.methodLink "LayeredPageLaw" (91 : Nat) ({ cls := "LayeredPageModel", name := "placings", desc := "()I" } : MethodName)) ∈ TT := TT_in (List.mem_append_right _ (List.mem_of_getElem? (i := 846) (by decide +kernel))) rfl
theorem t_847 : (Cond.instanceMethod ({ cls := "LayeredPageModel", name := "placings", desc := "()I" } : MethodName)) ∈ TT := TT_in (List.mem_append_right _ (List.mem_of_getElem? (i := 847) (by decide +kernel))) rfl
theorem t_848 : (Cond.selects "LayeredPageModel" ({ cls := "LayeredPageModel", name := "placings", desc := "()I" } : MethodName) ({ cls := "LayeredPageModel", name := "placings", desc := "()I" } : MethodName)) ∈ TT := TT_in (List.mem_append_right _ (List.mem_of_getElem? (i := 848) (by decide +kernel))) rfl
set_option maxRecDepth 100000 in
theorem t_849 : (Cond.code ({ cls := "LayeredPageModel", name := "placings", desc := "()I" } : MethodName) prog_12_method_47_code (1 : Nat) (Option.some FieldType.int)) ∈ TT := TT_in (List.mem_append_right _ (List.mem_of_getElem? (i := 849) (rfl))) rfl
theorem t_850 : (Cond.constantLong "LayeredPageLaw" (13 : Nat) (4294967295 : Int64)) ∈ TT := TT_in (List.mem_append_right _ (List.mem_of_getElem? (i := 850) (by decide +kernel))) rfl
theorem t_851 : (Cond.sameMethod "LayeredPage$Coder" "LayeredPage$Coder" "tally" "(II)V") ∈ TT := TT_in (List.mem_append_right _ (List.mem_of_getElem? (i := 851) (by decide +kernel))) rfl
theorem t_852 : (Cond.selects "LayeredPage$CodeReader" ({ cls := "LayeredPage$CodeReader", name := "shift", desc := "()V" } : MethodName) ({ cls := "LayeredPage$CodeReader", name := "shift", desc := "()V" } : MethodName)) ∈ TT := TT_in (List.mem_append_right _ (List.mem_of_getElem? (i := 852) (by decide +kernel))) rfl
theorem m_tally : (Cond.privateMethod ({ cls := "LayeredPage$Coder", name := "tally", desc := "(II)V" } : MethodName)) ∈ lw_tbl := List.mem_append_right _ (List.mem_of_getElem? (i := 384) (by decide +kernel))
theorem p_0 : Cond.selects "LayeredPage$Layer" (⟨"LayeredPage$Layer", "indexOf", "(II)I"⟩ : MethodName) ⟨"LayeredPage$Layer", "indexOf", "(II)I"⟩ ∈ TT := TT_in (List.mem_append_left _ (List.mem_of_getElem? (i := 0) (by decide +kernel))) rfl
theorem p_1 : Cond.selects "LayeredPage$DocumentWriter" (⟨"LayeredPage$DocumentWriter", "writeShape", "(LLayeredPage$Page;ILLayeredPage$Octets;)V"⟩ : MethodName) ⟨"LayeredPage$DocumentWriter", "writeShape", "(LLayeredPage$Page;ILLayeredPage$Octets;)V"⟩ ∈ TT := TT_in (List.mem_append_left _ (List.mem_of_getElem? (i := 1) (by decide +kernel))) rfl
theorem p_2 : Cond.selects "LayeredPage$DocumentWriter" (⟨"LayeredPage$DocumentWriter", "writePlacings", "(LLayeredPage$Page;LLayeredPage$Octets;)V"⟩ : MethodName) ⟨"LayeredPage$DocumentWriter", "writePlacings", "(LLayeredPage$Page;LLayeredPage$Octets;)V"⟩ ∈ TT := TT_in (List.mem_append_left _ (List.mem_of_getElem? (i := 2) (by decide +kernel))) rfl
theorem p_3 : Cond.selects "LayeredPage$DocumentWriter" (⟨"LayeredPage$DocumentWriter", "writeLayer", "(ILLayeredPage$Layer;ILLayeredPage$Octets;)V"⟩ : MethodName) ⟨"LayeredPage$DocumentWriter", "writeLayer", "(ILLayeredPage$Layer;ILLayeredPage$Octets;)V"⟩ ∈ TT := TT_in (List.mem_append_left _ (List.mem_of_getElem? (i := 3) (by decide +kernel))) rfl
theorem p_4 : Cond.selects "LayeredPage$Layer" (⟨"LayeredPage$Layer", "liftLine", "(III)V"⟩ : MethodName) ⟨"LayeredPage$Layer", "liftLine", "(III)V"⟩ ∈ TT := TT_in (List.mem_append_left _ (List.mem_of_getElem? (i := 4) (by decide +kernel))) rfl
theorem p_5 : Cond.selects "LayeredPage$Layer" (⟨"LayeredPage$Layer", "codePlaneBit", "(IILLayeredPage$Coder;)V"⟩ : MethodName) ⟨"LayeredPage$Layer", "codePlaneBit", "(IILLayeredPage$Coder;)V"⟩ ∈ TT := TT_in (List.mem_append_left _ (List.mem_of_getElem? (i := 5) (by decide +kernel))) rfl
theorem p_6 : Cond.selects "LayeredPage$Layer" (⟨"LayeredPage$Layer", "begunNeighbours", "(I)I"⟩ : MethodName) ⟨"LayeredPage$Layer", "begunNeighbours", "(I)I"⟩ ∈ TT := TT_in (List.mem_append_left _ (List.mem_of_getElem? (i := 6) (by decide +kernel))) rfl
theorem p_7 : Cond.selects "LayeredPage$DocumentReader" (⟨"LayeredPage$DocumentReader", "readShape", "(LLayeredPage$Octets;IILLayeredPage$Page;)I"⟩ : MethodName) ⟨"LayeredPage$DocumentReader", "readShape", "(LLayeredPage$Octets;IILLayeredPage$Page;)I"⟩ ∈ TT := TT_in (List.mem_append_left _ (List.mem_of_getElem? (i := 7) (by decide +kernel))) rfl
theorem p_8 : Cond.selects "LayeredPage$DocumentReader" (⟨"LayeredPage$DocumentReader", "readPlacings", "(LLayeredPage$Octets;IILLayeredPage$Page;)I"⟩ : MethodName) ⟨"LayeredPage$DocumentReader", "readPlacings", "(LLayeredPage$Octets;IILLayeredPage$Page;)I"⟩ ∈ TT := TT_in (List.mem_append_left _ (List.mem_of_getElem? (i := 8) (by decide +kernel))) rfl
theorem p_9 : Cond.selects "LayeredPage$DocumentReader" (⟨"LayeredPage$DocumentReader", "readLayer", "(LLayeredPage$Octets;IILLayeredPage$Layer;)I"⟩ : MethodName) ⟨"LayeredPage$DocumentReader", "readLayer", "(LLayeredPage$Octets;IILLayeredPage$Layer;)I"⟩ ∈ TT := TT_in (List.mem_append_left _ (List.mem_of_getElem? (i := 9) (by decide +kernel))) rfl
theorem p_10 : Cond.selects "LayeredPage$Layer" (⟨"LayeredPage$Layer", "undoLine", "(III)V"⟩ : MethodName) ⟨"LayeredPage$Layer", "undoLine", "(III)V"⟩ ∈ TT := TT_in (List.mem_append_left _ (List.mem_of_getElem? (i := 10) (by decide +kernel))) rfl
theorem p_11 : Cond.selects "LayeredPage" (⟨"LayeredPage", "pictureLayer", "(I)LLayeredPage$Layer;"⟩ : MethodName) ⟨"LayeredPage", "pictureLayer", "(I)LLayeredPage$Layer;"⟩ ∈ TT := TT_in (List.mem_append_left _ (List.mem_of_getElem? (i := 11) (by decide +kernel))) rfl
theorem p_12 : Cond.selects "LayeredPageModel" (⟨"LayeredPageModel", "put", "(I)V"⟩ : MethodName) ⟨"LayeredPageModel", "put", "(I)V"⟩ ∈ TT := TT_in (List.mem_append_left _ (List.mem_of_getElem? (i := 12) (by decide +kernel))) rfl
theorem p_13 : Cond.selects "LayeredPageModel" (⟨"LayeredPageModel", "putShape", "(I)V"⟩ : MethodName) ⟨"LayeredPageModel", "putShape", "(I)V"⟩ ∈ TT := TT_in (List.mem_append_left _ (List.mem_of_getElem? (i := 13) (by decide +kernel))) rfl
theorem p_14 : Cond.selects "LayeredPageModel" (⟨"LayeredPageModel", "open", "(I)I"⟩ : MethodName) ⟨"LayeredPageModel", "open", "(I)I"⟩ ∈ TT := TT_in (List.mem_append_left _ (List.mem_of_getElem? (i := 14) (by decide +kernel))) rfl
theorem p_15 : Cond.selects "LayeredPageModel" (⟨"LayeredPageModel", "begin", "(Z)V"⟩ : MethodName) ⟨"LayeredPageModel", "begin", "(Z)V"⟩ ∈ TT := TT_in (List.mem_append_left _ (List.mem_of_getElem? (i := 15) (by decide +kernel))) rfl
theorem p_16 : Cond.selects "LayeredPageModel" (⟨"LayeredPageModel", "walk", "(JIIZJ)J"⟩ : MethodName) ⟨"LayeredPageModel", "walk", "(JIIZJ)J"⟩ ∈ TT := TT_in (List.mem_append_left _ (List.mem_of_getElem? (i := 16) (by decide +kernel))) rfl
theorem p_17 : Cond.selects "LayeredPageModel" (⟨"LayeredPageModel", "code", "(II)I"⟩ : MethodName) ⟨"LayeredPageModel", "code", "(II)I"⟩ ∈ TT := TT_in (List.mem_append_left _ (List.mem_of_getElem? (i := 17) (by decide +kernel))) rfl
theorem p_18 : Cond.selects "LayeredPageModel" (⟨"LayeredPageModel", "units", "()I"⟩ : MethodName) ⟨"LayeredPageModel", "units", "()I"⟩ ∈ TT := TT_in (List.mem_append_left _ (List.mem_of_getElem? (i := 18) (by decide +kernel))) rfl
theorem p_19 : Cond.selects "LayeredPageModel" (⟨"LayeredPageModel", "shift", "(II)V"⟩ : MethodName) ⟨"LayeredPageModel", "shift", "(II)V"⟩ ∈ TT := TT_in (List.mem_append_left _ (List.mem_of_getElem? (i := 19) (by decide +kernel))) rfl
theorem p_20 : Cond.selects "LayeredPageModel" (⟨"LayeredPageModel", "putCode", "()V"⟩ : MethodName) ⟨"LayeredPageModel", "putCode", "()V"⟩ ∈ TT := TT_in (List.mem_append_left _ (List.mem_of_getElem? (i := 20) (by decide +kernel))) rfl
theorem p_21 : Cond.selects "LayeredPageModel" (⟨"LayeredPageModel", "close", "(I)V"⟩ : MethodName) ⟨"LayeredPageModel", "close", "(I)V"⟩ ∈ TT := TT_in (List.mem_append_left _ (List.mem_of_getElem? (i := 21) (by decide +kernel))) rfl
theorem p_22 : Cond.selects "LayeredPageModel" (⟨"LayeredPageModel", "putLayer", "(II)V"⟩ : MethodName) ⟨"LayeredPageModel", "putLayer", "(II)V"⟩ ∈ TT := TT_in (List.mem_append_left _ (List.mem_of_getElem? (i := 22) (by decide +kernel))) rfl
theorem p_23 : Cond.selects "LayeredPageModel" (⟨"LayeredPageModel", "all", "(IZZ)V"⟩ : MethodName) ⟨"LayeredPageModel", "all", "(IZZ)V"⟩ ∈ TT := TT_in (List.mem_append_left _ (List.mem_of_getElem? (i := 23) (by decide +kernel))) rfl
theorem p_24 : Cond.selects "LayeredPageModel" (⟨"LayeredPageModel", "lift", "(I)V"⟩ : MethodName) ⟨"LayeredPageModel", "lift", "(I)V"⟩ ∈ TT := TT_in (List.mem_append_left _ (List.mem_of_getElem? (i := 24) (by decide +kernel))) rfl
theorem p_25 : Cond.selects "LayeredPageModel" (⟨"LayeredPageModel", "drop", "(I)V"⟩ : MethodName) ⟨"LayeredPageModel", "drop", "(I)V"⟩ ∈ TT := TT_in (List.mem_append_left _ (List.mem_of_getElem? (i := 25) (by decide +kernel))) rfl
theorem p_26 : Cond.selects "LayeredPageModel" (⟨"LayeredPageModel", "planes", "(II)V"⟩ : MethodName) ⟨"LayeredPageModel", "planes", "(II)V"⟩ ∈ TT := TT_in (List.mem_append_left _ (List.mem_of_getElem? (i := 26) (by decide +kernel))) rfl
theorem p_27 : Cond.selects "LayeredPageModel" (⟨"LayeredPageModel", "fault", "()I"⟩ : MethodName) ⟨"LayeredPageModel", "fault", "()I"⟩ ∈ TT := TT_in (List.mem_append_left _ (List.mem_of_getElem? (i := 27) (by decide +kernel))) rfl
theorem p_28 : Cond.selects "LayeredPageModel" (⟨"LayeredPageModel", "chunkFault", "(I)I"⟩ : MethodName) ⟨"LayeredPageModel", "chunkFault", "(I)I"⟩ ∈ TT := TT_in (List.mem_append_left _ (List.mem_of_getElem? (i := 28) (by decide +kernel))) rfl
theorem p_29 : Cond.selects "LayeredPageModel" (⟨"LayeredPageModel", "chunkLength", "(I)I"⟩ : MethodName) ⟨"LayeredPageModel", "chunkLength", "(I)I"⟩ ∈ TT := TT_in (List.mem_append_left _ (List.mem_of_getElem? (i := 29) (by decide +kernel))) rfl
theorem p_30 : Cond.selects "LayeredPageModel" (⟨"LayeredPageModel", "before", "(II)I"⟩ : MethodName) ⟨"LayeredPageModel", "before", "(II)I"⟩ ∈ TT := TT_in (List.mem_append_left _ (List.mem_of_getElem? (i := 30) (by decide +kernel))) rfl
theorem p_31 : Cond.selects "LayeredPageModel" (⟨"LayeredPageModel", "placingsBefore", "(I)I"⟩ : MethodName) ⟨"LayeredPageModel", "placingsBefore", "(I)I"⟩ ∈ TT := TT_in (List.mem_append_left _ (List.mem_of_getElem? (i := 31) (by decide +kernel))) rfl
theorem p_32 : Cond.selects "LayeredPageModel" (⟨"LayeredPageModel", "takeShape", "(I)V"⟩ : MethodName) ⟨"LayeredPageModel", "takeShape", "(I)V"⟩ ∈ TT := TT_in (List.mem_append_left _ (List.mem_of_getElem? (i := 32) (by decide +kernel))) rfl
theorem p_33 : Cond.selects "LayeredPageModel" (⟨"LayeredPageModel", "load", "(II)V"⟩ : MethodName) ⟨"LayeredPageModel", "load", "(II)V"⟩ ∈ TT := TT_in (List.mem_append_left _ (List.mem_of_getElem? (i := 33) (by decide +kernel))) rfl
theorem p_34 : Cond.selects "LayeredPageModel" (⟨"LayeredPageModel", "takePlacings", "(I)V"⟩ : MethodName) ⟨"LayeredPageModel", "takePlacings", "(I)V"⟩ ∈ TT := TT_in (List.mem_append_left _ (List.mem_of_getElem? (i := 34) (by decide +kernel))) rfl
theorem p_35 : Cond.selects "LayeredPageModel" (⟨"LayeredPageModel", "takeLayer", "(II)V"⟩ : MethodName) ⟨"LayeredPageModel", "takeLayer", "(II)V"⟩ ∈ TT := TT_in (List.mem_append_left _ (List.mem_of_getElem? (i := 35) (by decide +kernel))) rfl
theorem p_36 : Cond.selects "LayeredPageModel" (⟨"LayeredPageModel", "noCell", "(III)Z"⟩ : MethodName) ⟨"LayeredPageModel", "noCell", "(III)Z"⟩ ∈ TT := TT_in (List.mem_append_left _ (List.mem_of_getElem? (i := 36) (by decide +kernel))) rfl
theorem inCr : ∀ w ∈ u_ws RCr TCr 8, w ∈ TT := by
  intro w hw
  obtain ⟨k, hk, rfl⟩ := List.mem_map.mp hw
  have hk := List.mem_range.mp hk
  match k, hk with
  | 0, _ => exact t_107
  | 1, _ => exact t_109
  | 2, _ => exact t_111
  | 3, _ => exact t_113
  | 4, _ => exact t_115
  | 5, _ => exact t_117
  | 6, _ => exact t_118
  | 7, _ => exact t_119
  | k + 8, h => omega
theorem inCw : ∀ w ∈ u_ws RCw TCw 6, w ∈ TT := by
  intro w hw
  obtain ⟨k, hk, rfl⟩ := List.mem_map.mp hw
  have hk := List.mem_range.mp hk
  match k, hk with
  | 0, _ => exact t_73
  | 1, _ => exact t_75
  | 2, _ => exact t_77
  | 3, _ => exact t_79
  | 4, _ => exact t_81
  | 5, _ => exact t_83
  | k + 6, h => omega
theorem inDr : ∀ w ∈ u_ws RDr TDr 1, w ∈ TT := by
  intro w hw
  obtain ⟨k, hk, rfl⟩ := List.mem_map.mp hw
  have hk := List.mem_range.mp hk
  match k, hk with
  | 0, _ => exact t_122
  | k + 1, h => omega
theorem inDw : ∀ w ∈ u_ws RDw TDw 1, w ∈ TT := by
  intro w hw
  obtain ⟨k, hk, rfl⟩ := List.mem_map.mp hw
  have hk := List.mem_range.mp hk
  match k, hk with
  | 0, _ => exact t_87
  | k + 1, h => omega
theorem inLy : ∀ w ∈ u_ws RLy TLy 6, w ∈ TT := by
  intro w hw
  obtain ⟨k, hk, rfl⟩ := List.mem_map.mp hw
  have hk := List.mem_range.mp hk
  match k, hk with
  | 0, _ => exact t_147
  | 1, _ => exact t_149
  | 2, _ => exact t_151
  | 3, _ => exact t_153
  | 4, _ => exact t_155
  | 5, _ => exact t_157
  | k + 6, h => omega
theorem inOct : ∀ w ∈ u_ws ROct TOct 2, w ∈ TT := by
  intro w hw
  obtain ⟨k, hk, rfl⟩ := List.mem_map.mp hw
  have hk := List.mem_range.mp hk
  match k, hk with
  | 0, _ => exact t_36
  | 1, _ => exact t_38
  | k + 2, h => omega
theorem inPg : ∀ w ∈ u_ws RPg TPg 7, w ∈ TT := by
  intro w hw
  obtain ⟨k, hk, rfl⟩ := List.mem_map.mp hw
  have hk := List.mem_range.mp hk
  match k, hk with
  | 0, _ => exact t_209
  | 1, _ => exact t_211
  | 2, _ => exact t_213
  | 3, _ => exact t_215
  | 4, _ => exact t_217
  | 5, _ => exact t_219
  | 6, _ => exact t_221
  | k + 7, h => omega
theorem inSh : ∀ w ∈ u_ws RSh TSh 4, w ∈ TT := by
  intro w hw
  obtain ⟨k, hk, rfl⟩ := List.mem_map.mp hw
  have hk := List.mem_range.mp hk
  match k, hk with
  | 0, _ => exact t_177
  | 1, _ => exact t_179
  | 2, _ => exact t_181
  | 3, _ => exact t_183
  | k + 4, h => omega
theorem inLP : ∀ w ∈ u_ws RLP TLP 7, w ∈ TT := by
  intro w hw
  obtain ⟨k, hk, rfl⟩ := List.mem_map.mp hw
  have hk := List.mem_range.mp hk
  match k, hk with
  | 0, _ => exact t_231
  | 1, _ => exact t_233
  | 2, _ => exact t_235
  | 3, _ => exact t_237
  | 4, _ => exact t_239
  | 5, _ => exact t_241
  | 6, _ => exact t_243
  | k + 7, h => omega
theorem inMd : ∀ w ∈ u_ws RMd TMd 30, w ∈ TT := by
  intro w hw
  obtain ⟨k, hk, rfl⟩ := List.mem_map.mp hw
  have hk := List.mem_range.mp hk
  match k, hk with
  | 0, _ => exact t_602
  | 1, _ => exact t_604
  | 2, _ => exact t_606
  | 3, _ => exact t_608
  | 4, _ => exact t_610
  | 5, _ => exact t_612
  | 6, _ => exact t_614
  | 7, _ => exact t_616
  | 8, _ => exact t_618
  | 9, _ => exact t_620
  | 10, _ => exact t_622
  | 11, _ => exact t_624
  | 12, _ => exact t_626
  | 13, _ => exact t_628
  | 14, _ => exact t_630
  | 15, _ => exact t_632
  | 16, _ => exact t_634
  | 17, _ => exact t_636
  | 18, _ => exact t_638
  | 19, _ => exact t_640
  | 20, _ => exact t_642
  | 21, _ => exact t_644
  | 22, _ => exact t_646
  | 23, _ => exact t_648
  | 24, _ => exact t_650
  | 25, _ => exact t_652
  | 26, _ => exact t_654
  | 27, _ => exact t_656
  | 28, _ => exact t_658
  | 29, _ => exact t_660
  | k + 30, h => omega
theorem si_LP_init : Si y_LP_init b_LP_init 1 0 := ⟨t_19, t_18, t_1, by decide, by decide, by decide +kernel, rfl⟩
theorem si_Oct_init : Si y_Oct_init b_Oct_init 1 0 := ⟨t_27, t_26, t_2, by decide, by decide, by decide +kernel, rfl⟩
theorem si_Dw_init : Si y_Dw_init b_Dw_init 1 0 := ⟨t_46, t_45, t_3, by decide, by decide, by decide +kernel, rfl⟩
theorem si_Cw_init : Si y_Cw_init b_Cw_init 1 0 := ⟨t_52, t_51, t_5, by decide, by decide, by decide +kernel, rfl⟩
theorem si_Cd_init : Si y_Cd_init b_Cd_init 1 0 := ⟨t_55, t_54, t_4, by decide, by decide, by decide +kernel, rfl⟩
theorem ss_Ar_fill : Ss y_Ar_fill b_Ar_fill 4 none 2 := ⟨t_66, t_65, t_6, by decide, by decide, by decide +kernel⟩
theorem si_Dr_init : Si y_Dr_init b_Dr_init 1 0 := ⟨t_94, t_93, t_7, by decide, by decide, by decide +kernel, rfl⟩
theorem si_Cr_init : Si y_Cr_init b_Cr_init 1 0 := ⟨t_100, t_99, t_8, by decide, by decide, by decide +kernel, rfl⟩
theorem si_Pg_init : Si y_Pg_init b_Pg_init 2 0 := ⟨t_129, t_128, t_9, by decide, by decide, by decide +kernel, rfl⟩
theorem si_Ly_init : Si y_Ly_init b_Ly_init 2 1 := ⟨t_137, t_136, t_10, by decide, by decide, by decide +kernel, rfl⟩
theorem si_Sh_init : Si y_Sh_init b_Sh_init 1 0 := ⟨t_163, t_162, t_11, by decide, by decide, by decide +kernel, rfl⟩
theorem sv_LP_shape : Sv y_LP_shape b_LP_shape 7 (some .int) 4 := ⟨t_249, t_247, t_248, t_1, by decide, by decide, by decide +kernel⟩
theorem sv_Pg_hasShape : Sv y_Pg_hasShape b_Pg_hasShape 2 (some .boolean) 1 := ⟨t_253, t_251, t_252, t_9, by decide, by decide, by decide +kernel⟩
theorem ss_LP_isShapeSide : Ss y_LP_isShapeSide b_LP_isShapeSide 1 (some .boolean) 1 := ⟨t_256, t_255, t_1, by decide, by decide, by decide +kernel⟩
theorem ss_LP_shapeMask : Ss y_LP_shapeMask b_LP_shapeMask 7 (some .long) 2 := ⟨t_259, t_258, t_1, by decide, by decide, by decide +kernel⟩
theorem sv_Pg_addShape : Sv y_Pg_addShape b_Pg_addShape 7 (some .int) 4 := ⟨t_264, t_262, t_263, t_9, by decide, by decide, by decide +kernel⟩
theorem sv_LP_place : Sv y_LP_place b_LP_place 4 (some .int) 3 := ⟨t_268, t_266, t_267, t_1, by decide, by decide, by decide +kernel⟩
theorem ss_LP_isOnPage : Ss y_LP_isOnPage b_LP_isOnPage 2 (some .boolean) 2 := ⟨t_271, t_270, t_1, by decide, by decide, by decide +kernel⟩
theorem sv_Pg_addPlacing : Sv y_Pg_addPlacing b_Pg_addPlacing 3 (some .int) 2 := ⟨t_275, t_273, t_274, t_9, by decide, by decide, by decide +kernel⟩
theorem sv_LP_paint : Sv y_LP_paint b_LP_paint 7 (some .boolean) 3 := ⟨t_279, t_277, t_278, t_1, by decide, by decide, by decide +kernel⟩
theorem sv_Pg_layerOf : Sv y_Pg_layerOf b_Pg_layerOf 2 (some (.object "LayeredPage$Layer")) 1 := ⟨t_283, t_281, t_282, t_9, by decide, by decide, by decide +kernel⟩
theorem sv_Ly_hasCell : Sv y_Ly_hasCell b_Ly_hasCell 3 (some .boolean) 2 := ⟨t_287, t_285, t_286, t_10, by decide, by decide, by decide +kernel⟩
theorem sv_Ly_setRow : Sv y_Ly_setRow b_Ly_setRow 5 none 2 := ⟨t_292, t_290, t_291, t_10, by decide, by decide, by decide +kernel⟩
theorem sv_Ly_indexOf : Sv y_Ly_indexOf b_Ly_indexOf 3 (some .int) 2 := ⟨t_296, t_295, p_0, t_10, by decide, by decide, by decide +kernel⟩
theorem sv_LP_clear : Sv y_LP_clear b_LP_clear 1 none 0 := ⟨t_300, t_298, t_299, t_1, by decide, by decide, by decide +kernel⟩
theorem sv_Pg_makeEmpty : Sv y_Pg_makeEmpty b_Pg_makeEmpty 1 none 0 := ⟨t_304, t_302, t_303, t_9, by decide, by decide, by decide +kernel⟩
theorem sv_Ly_makeEmpty : Sv y_Ly_makeEmpty b_Ly_makeEmpty 1 none 0 := ⟨t_308, t_306, t_307, t_10, by decide, by decide, by decide +kernel⟩
theorem sv_LP_encode : Sv y_LP_encode b_LP_encode 2 (some .int) 1 := ⟨t_313, t_311, t_312, t_1, by decide, by decide, by decide +kernel⟩
theorem sv_Dw_write : Sv y_Dw_write b_Dw_write 5 none 3 := ⟨t_317, t_315, t_316, t_3, by decide, by decide, by decide +kernel⟩
theorem sv_Oct_keep : Sv y_Oct_keep b_Oct_keep 3 none 1 := ⟨t_321, t_319, t_320, t_2, by decide, by decide, by decide +kernel⟩
theorem sv_Oct_append : Sv y_Oct_append b_Oct_append 2 none 1 := ⟨t_325, t_323, t_324, t_2, by decide, by decide, by decide +kernel⟩
theorem sv_Oct_set : Sv y_Oct_set b_Oct_set 3 none 2 := ⟨t_329, t_327, t_328, t_2, by decide, by decide, by decide +kernel⟩
theorem sv_Dw_writeShape : Sv y_Dw_writeShape b_Dw_writeShape 6 none 3 := ⟨t_336, t_335, p_1, t_3, by decide, by decide, by decide +kernel⟩
theorem sv_Oct_openChunk : Sv y_Oct_openChunk b_Oct_openChunk 2 (some .int) 1 := ⟨t_340, t_338, t_339, t_2, by decide, by decide, by decide +kernel⟩
theorem sv_Cw_begin : Sv y_Cw_begin b_Cw_begin 3 none 2 := ⟨t_345, t_343, t_344, t_5, by decide, by decide, by decide +kernel⟩
theorem sv_Pg_codeShape : Sv y_Pg_codeShape b_Pg_codeShape 8 none 2 := ⟨t_353, t_351, t_352, t_9, by decide, by decide, by decide +kernel⟩
theorem sv_Sh_contextAlone : Sv y_Sh_contextAlone b_Sh_contextAlone 3 (some .int) 2 := ⟨t_358, t_356, t_357, t_11, by decide, by decide, by decide +kernel⟩
theorem sv_Sh_bitAt : Sv y_Sh_bitAt b_Sh_bitAt 3 (some .int) 2 := ⟨t_362, t_360, t_361, t_11, by decide, by decide, by decide +kernel⟩
theorem sv_Sh_contextWith : Sv y_Sh_contextWith b_Sh_contextWith 4 (some .int) 3 := ⟨t_366, t_364, t_365, t_11, by decide, by decide, by decide +kernel⟩
theorem sv_Cr_shift : Sv y_Cr_shift b_Cr_shift 1 none 0 := ⟨t_393, t_392, t_852, t_8, by decide, by decide, by decide +kernel⟩
theorem sv_Cw_size : Sv y_Cw_size b_Cw_size 1 (some .int) 0 := ⟨t_400, t_398, t_399, t_5, by decide, by decide, by decide +kernel⟩
theorem sv_Oct_take : Sv y_Oct_take b_Oct_take 2 none 1 := ⟨t_404, t_402, t_403, t_2, by decide, by decide, by decide +kernel⟩
theorem sv_Oct_closeChunk : Sv y_Oct_closeChunk b_Oct_closeChunk 3 none 1 := ⟨t_411, t_409, t_410, t_2, by decide, by decide, by decide +kernel⟩
theorem sv_Dw_writePlacings : Sv y_Dw_writePlacings b_Dw_writePlacings 5 none 2 := ⟨t_415, t_414, p_2, t_3, by decide, by decide, by decide +kernel⟩
theorem sv_Dw_writeLayer : Sv y_Dw_writeLayer b_Dw_writeLayer 6 none 4 := ⟨t_419, t_418, p_3, t_3, by decide, by decide, by decide +kernel⟩
theorem sv_Ly_liftCells : Sv y_Ly_liftCells b_Ly_liftCells 3 none 0 := ⟨t_423, t_421, t_422, t_10, by decide, by decide, by decide +kernel⟩
theorem sv_Ly_liftLine : Sv y_Ly_liftLine b_Ly_liftLine 9 none 3 := ⟨t_430, t_429, p_4, t_10, by decide, by decide, by decide +kernel⟩
theorem sv_Ly_codeCoefficients : Sv y_Ly_codeCoefficients b_Ly_codeCoefficients 5 none 2 := ⟨t_434, t_432, t_433, t_10, by decide, by decide, by decide +kernel⟩
theorem sv_Ly_codePlaneBit : Sv y_Ly_codePlaneBit b_Ly_codePlaneBit 7 none 3 := ⟨t_438, t_437, p_5, t_10, by decide, by decide, by decide +kernel⟩
theorem sv_Ly_begunNeighbours : Sv y_Ly_begunNeighbours b_Ly_begunNeighbours 4 (some .int) 1 := ⟨t_446, t_445, p_6, t_10, by decide, by decide, by decide +kernel⟩
theorem sv_LP_length : Sv y_LP_length b_LP_length 1 (some .int) 0 := ⟨t_450, t_448, t_449, t_1, by decide, by decide, by decide +kernel⟩
theorem sv_LP_octet : Sv y_LP_octet b_LP_octet 2 (some .int) 1 := ⟨t_454, t_452, t_453, t_1, by decide, by decide, by decide +kernel⟩
theorem sv_Oct_at : Sv y_Oct_at b_Oct_at 2 (some .int) 1 := ⟨t_458, t_456, t_457, t_2, by decide, by decide, by decide +kernel⟩
theorem sv_LP_alter : Sv y_LP_alter b_LP_alter 3 (some .boolean) 2 := ⟨t_462, t_460, t_461, t_1, by decide, by decide, by decide +kernel⟩
theorem sv_LP_cut : Sv y_LP_cut b_LP_cut 2 (some .boolean) 1 := ⟨t_467, t_465, t_466, t_1, by decide, by decide, by decide +kernel⟩
theorem sv_LP_decode : Sv y_LP_decode b_LP_decode 3 (some .int) 0 := ⟨t_472, t_470, t_471, t_1, by decide, by decide, by decide +kernel⟩
theorem sv_Dr_read : Sv y_Dr_read b_Dr_read 9 (some .int) 2 := ⟨t_476, t_474, t_475, t_7, by decide, by decide, by decide +kernel⟩
theorem sv_Oct_chunkSize : Sv y_Oct_chunkSize b_Oct_chunkSize 3 (some .int) 1 := ⟨t_482, t_480, t_481, t_2, by decide, by decide, by decide +kernel⟩
theorem sv_Dr_readShape : Sv y_Dr_readShape b_Dr_readShape 9 (some .int) 4 := ⟨t_487, t_486, p_7, t_7, by decide, by decide, by decide +kernel⟩
theorem sv_Cr_begin : Sv y_Cr_begin b_Cr_begin 5 none 3 := ⟨t_493, t_491, t_492, t_8, by decide, by decide, by decide +kernel⟩
theorem sv_Dr_readPlacings : Sv y_Dr_readPlacings b_Dr_readPlacings 6 (some .int) 4 := ⟨t_503, t_502, p_8, t_7, by decide, by decide, by decide +kernel⟩
theorem sv_Dr_readLayer : Sv y_Dr_readLayer b_Dr_readLayer 5 (some .int) 4 := ⟨t_509, t_508, p_9, t_7, by decide, by decide, by decide +kernel⟩
theorem sv_Ly_undoCoefficients : Sv y_Ly_undoCoefficients b_Ly_undoCoefficients 3 none 0 := ⟨t_514, t_512, t_513, t_10, by decide, by decide, by decide +kernel⟩
theorem sv_Ly_undoLine : Sv y_Ly_undoLine b_Ly_undoLine 8 none 3 := ⟨t_518, t_517, p_10, t_10, by decide, by decide, by decide +kernel⟩
theorem sv_LP_pixel : Sv y_LP_pixel b_LP_pixel 3 (some .int) 2 := ⟨t_524, t_522, t_523, t_1, by decide, by decide, by decide +kernel⟩
theorem sv_Pg_isInked : Sv y_Pg_isInked b_Pg_isInked 6 (some .boolean) 2 := ⟨t_528, t_526, t_527, t_9, by decide, by decide, by decide +kernel⟩
theorem sv_Ly_cellAt : Sv y_Ly_cellAt b_Ly_cellAt 3 (some .int) 2 := ⟨t_532, t_530, t_531, t_10, by decide, by decide, by decide +kernel⟩
theorem sv_LP_inked : Sv y_LP_inked b_LP_inked 3 (some .boolean) 2 := ⟨t_537, t_535, t_536, t_1, by decide, by decide, by decide +kernel⟩
theorem sv_LP_cell : Sv y_LP_cell b_LP_cell 5 (some .int) 3 := ⟨t_541, t_539, t_540, t_1, by decide, by decide, by decide +kernel⟩
theorem sv_LP_pictureLayer : Sv y_LP_pictureLayer b_LP_pictureLayer 2 (some (.object "LayeredPage$Layer")) 1 := ⟨t_545, t_544, p_11, t_1, by decide, by decide, by decide +kernel⟩
theorem sv_LP_coefficient : Sv y_LP_coefficient b_LP_coefficient 5 (some .int) 3 := ⟨t_549, t_547, t_548, t_1, by decide, by decide, by decide +kernel⟩
theorem sv_Ly_coefficientAt : Sv y_Ly_coefficientAt b_Ly_coefficientAt 3 (some .int) 2 := ⟨t_553, t_551, t_552, t_10, by decide, by decide, by decide +kernel⟩
theorem sv_LP_shapes : Sv y_LP_shapes b_LP_shapes 1 (some .int) 0 := ⟨t_557, t_555, t_556, t_1, by decide, by decide, by decide +kernel⟩
theorem sv_LP_glyph : Sv y_LP_glyph b_LP_glyph 2 (some .long) 1 := ⟨t_561, t_559, t_560, t_1, by decide, by decide, by decide +kernel⟩
theorem sv_LP_placings : Sv y_LP_placings b_LP_placings 1 (some .int) 0 := ⟨t_565, t_563, t_564, t_1, by decide, by decide, by decide +kernel⟩
theorem si_Md_init : Si y_Md_init b_Md_init 1 0 := ⟨t_570, t_569, t_12, by decide, by decide, by decide +kernel, rfl⟩
theorem sv_Md_shape : Sv y_Md_shape b_Md_shape 8 (some .int) 4 := ⟨t_668, t_666, t_667, t_12, by decide, by decide, by decide +kernel⟩
theorem ss_Md_outside : Ss y_Md_outside b_Md_outside 2 (some .boolean) 2 := ⟨t_671, t_670, t_12, by decide, by decide, by decide +kernel⟩
theorem ss_Md_at : Ss y_Md_at b_Md_at 4 (some .int) 3 := ⟨t_674, t_673, t_12, by decide, by decide, by decide +kernel⟩
theorem sv_Md_place : Sv y_Md_place b_Md_place 4 (some .int) 3 := ⟨t_678, t_676, t_677, t_12, by decide, by decide, by decide +kernel⟩
theorem sv_Md_paint : Sv y_Md_paint b_Md_paint 7 (some .boolean) 3 := ⟨t_682, t_680, t_681, t_12, by decide, by decide, by decide +kernel⟩
theorem ss_Md_side : Ss y_Md_side b_Md_side 1 (some .int) 1 := ⟨t_685, t_684, t_12, by decide, by decide, by decide +kernel⟩
theorem sv_Md_clear : Sv y_Md_clear b_Md_clear 2 none 0 := ⟨t_690, t_688, t_689, t_12, by decide, by decide, by decide +kernel⟩
theorem sv_Md_encode : Sv y_Md_encode b_Md_encode 4 (some .int) 1 := ⟨t_694, t_692, t_693, t_12, by decide, by decide, by decide +kernel⟩
theorem sv_Md_put : Sv y_Md_put b_Md_put 2 none 1 := ⟨t_698, t_697, p_12, t_12, by decide, by decide, by decide +kernel⟩
theorem sv_Md_putShape : Sv y_Md_putShape b_Md_putShape 5 none 1 := ⟨t_702, t_701, p_13, t_12, by decide, by decide, by decide +kernel⟩
theorem sv_Md_open : Sv y_Md_open b_Md_open 2 (some .int) 1 := ⟨t_706, t_705, p_14, t_12, by decide, by decide, by decide +kernel⟩
theorem sv_Md_begin : Sv y_Md_begin b_Md_begin 3 none 1 := ⟨t_710, t_709, p_15, t_12, by decide, by decide, by decide +kernel⟩
theorem sv_Md_walk : Sv y_Md_walk b_Md_walk 14 (some .long) 5 := ⟨t_715, t_714, p_16, t_12, by decide, by decide, by decide +kernel⟩
theorem sv_Md_code : Sv y_Md_code b_Md_code 6 (some .int) 2 := ⟨t_719, t_718, p_17, t_12, by decide, by decide, by decide +kernel⟩
theorem sv_Md_units : Sv y_Md_units b_Md_units 3 (some .int) 0 := ⟨t_723, t_722, p_18, t_12, by decide, by decide, by decide +kernel⟩
theorem sv_Md_shift : Sv y_Md_shift b_Md_shift 7 none 2 := ⟨t_727, t_726, p_19, t_12, by decide, by decide, by decide +kernel⟩
theorem sv_Md_putCode : Sv y_Md_putCode b_Md_putCode 5 none 0 := ⟨t_732, t_731, p_20, t_12, by decide, by decide, by decide +kernel⟩
theorem sv_Md_close : Sv y_Md_close b_Md_close 2 none 1 := ⟨t_736, t_735, p_21, t_12, by decide, by decide, by decide +kernel⟩
theorem sv_Md_putLayer : Sv y_Md_putLayer b_Md_putLayer 5 none 2 := ⟨t_740, t_739, p_22, t_12, by decide, by decide, by decide +kernel⟩
theorem sv_Md_all : Sv y_Md_all b_Md_all 6 none 3 := ⟨t_744, t_743, p_23, t_12, by decide, by decide, by decide +kernel⟩
theorem sv_Md_lift : Sv y_Md_lift b_Md_lift 5 none 1 := ⟨t_748, t_747, p_24, t_12, by decide, by decide, by decide +kernel⟩
theorem ss_Md_half : Ss y_Md_half b_Md_half 1 (some .int) 1 := ⟨t_751, t_750, t_12, by decide, by decide, by decide +kernel⟩
theorem sv_Md_drop : Sv y_Md_drop b_Md_drop 5 none 1 := ⟨t_755, t_754, p_25, t_12, by decide, by decide, by decide +kernel⟩
theorem sv_Md_planes : Sv y_Md_planes b_Md_planes 13 none 2 := ⟨t_759, t_758, p_26, t_12, by decide, by decide, by decide +kernel⟩
theorem sv_Md_length : Sv y_Md_length b_Md_length 1 (some .int) 0 := ⟨t_763, t_761, t_762, t_12, by decide, by decide, by decide +kernel⟩
theorem sv_Md_octet : Sv y_Md_octet b_Md_octet 2 (some .int) 1 := ⟨t_767, t_765, t_766, t_12, by decide, by decide, by decide +kernel⟩
theorem sv_Md_alter : Sv y_Md_alter b_Md_alter 3 (some .boolean) 2 := ⟨t_771, t_769, t_770, t_12, by decide, by decide, by decide +kernel⟩
theorem sv_Md_cut : Sv y_Md_cut b_Md_cut 2 (some .boolean) 1 := ⟨t_775, t_773, t_774, t_12, by decide, by decide, by decide +kernel⟩
theorem sv_Md_decode : Sv y_Md_decode b_Md_decode 3 (some .int) 0 := ⟨t_779, t_777, t_778, t_12, by decide, by decide, by decide +kernel⟩
theorem sv_Md_fault : Sv y_Md_fault b_Md_fault 3 (some .int) 0 := ⟨t_783, t_782, p_27, t_12, by decide, by decide, by decide +kernel⟩
theorem sv_Md_chunkFault : Sv y_Md_chunkFault b_Md_chunkFault 6 (some .int) 1 := ⟨t_787, t_786, p_28, t_12, by decide, by decide, by decide +kernel⟩
theorem sv_Md_chunkLength : Sv y_Md_chunkLength b_Md_chunkLength 2 (some .int) 1 := ⟨t_791, t_790, p_29, t_12, by decide, by decide, by decide +kernel⟩
theorem sv_Md_before : Sv y_Md_before b_Md_before 5 (some .int) 2 := ⟨t_795, t_794, p_30, t_12, by decide, by decide, by decide +kernel⟩
theorem sv_Md_placingsBefore : Sv y_Md_placingsBefore b_Md_placingsBefore 4 (some .int) 1 := ⟨t_799, t_798, p_31, t_12, by decide, by decide, by decide +kernel⟩
theorem sv_Md_takeShape : Sv y_Md_takeShape b_Md_takeShape 5 none 1 := ⟨t_803, t_802, p_32, t_12, by decide, by decide, by decide +kernel⟩
theorem sv_Md_load : Sv y_Md_load b_Md_load 4 none 2 := ⟨t_807, t_806, p_33, t_12, by decide, by decide, by decide +kernel⟩
theorem sv_Md_takePlacings : Sv y_Md_takePlacings b_Md_takePlacings 3 none 1 := ⟨t_811, t_810, p_34, t_12, by decide, by decide, by decide +kernel⟩
theorem sv_Md_takeLayer : Sv y_Md_takeLayer b_Md_takeLayer 7 none 2 := ⟨t_815, t_814, p_35, t_12, by decide, by decide, by decide +kernel⟩
theorem sv_Md_inked : Sv y_Md_inked b_Md_inked 7 (some .boolean) 2 := ⟨t_819, t_817, t_818, t_12, by decide, by decide, by decide +kernel⟩
theorem sv_Md_cell : Sv y_Md_cell b_Md_cell 5 (some .int) 3 := ⟨t_823, t_821, t_822, t_12, by decide, by decide, by decide +kernel⟩
theorem sv_Md_noCell : Sv y_Md_noCell b_Md_noCell 4 (some .boolean) 3 := ⟨t_827, t_826, p_36, t_12, by decide, by decide, by decide +kernel⟩
theorem sv_Md_pixel : Sv y_Md_pixel b_Md_pixel 3 (some .int) 2 := ⟨t_831, t_829, t_830, t_12, by decide, by decide, by decide +kernel⟩
theorem sv_Md_coefficient : Sv y_Md_coefficient b_Md_coefficient 4 (some .int) 3 := ⟨t_837, t_835, t_836, t_12, by decide, by decide, by decide +kernel⟩
theorem sv_Md_shapes : Sv y_Md_shapes b_Md_shapes 1 (some .int) 0 := ⟨t_841, t_839, t_840, t_12, by decide, by decide, by decide +kernel⟩
theorem sv_Md_glyph : Sv y_Md_glyph b_Md_glyph 2 (some .long) 1 := ⟨t_845, t_843, t_844, t_12, by decide, by decide, by decide +kernel⟩
theorem sv_Md_placings : Sv y_Md_placings b_Md_placings 1 (some .int) 0 := ⟨t_849, t_847, t_848, t_12, by decide, by decide, by decide +kernel⟩
theorem su_Cr_Cd_restart : Su (⟨"LayeredPage$Coder", "restart", "()V"⟩ : MethodName) y_Cd_restart "LayeredPage$CodeReader" "LayeredPage$Coder" b_Cd_restart 1 none 0 := ⟨t_63, t_60, fun _ _ h => h _ t_61, t_59, t_4, by decide, by decide, by decide +kernel⟩
theorem su_Cw_Cd_restart : Su (⟨"LayeredPage$Coder", "restart", "()V"⟩ : MethodName) y_Cd_restart "LayeredPage$CodeWriter" "LayeredPage$Coder" b_Cd_restart 1 none 0 := ⟨t_63, t_60, fun _ _ h => h _ t_62, t_59, t_4, by decide, by decide, by decide +kernel⟩
theorem su_Cr_Cd_code : Su (⟨"LayeredPage$Coder", "code", "(II)I"⟩ : MethodName) y_Cd_code "LayeredPage$CodeReader" "LayeredPage$Coder" b_Cd_code 6 (some .int) 2 := ⟨t_373, t_370, fun _ _ h => h _ t_371, t_369, t_4, by decide, by decide, by decide +kernel⟩
theorem su_Cw_Cd_code : Su (⟨"LayeredPage$Coder", "code", "(II)I"⟩ : MethodName) y_Cd_code "LayeredPage$CodeWriter" "LayeredPage$Coder" b_Cd_code 6 (some .int) 2 := ⟨t_373, t_370, fun _ _ h => h _ t_372, t_369, t_4, by decide, by decide, by decide +kernel⟩
theorem su_Cr_Cd_choose : Su (⟨"LayeredPage$Coder", "choose", "(II)I"⟩ : MethodName) y_Cr_choose "LayeredPage$CodeReader" "LayeredPage$Coder" b_Cr_choose 3 (some .int) 2 := ⟨t_379, t_376, fun _ _ h => h _ t_377, t_378, t_8, by decide, by decide, by decide +kernel⟩
theorem su_Cw_Cd_choose : Su (⟨"LayeredPage$Coder", "choose", "(II)I"⟩ : MethodName) y_Cw_choose "LayeredPage$CodeWriter" "LayeredPage$Coder" b_Cw_choose 6 (some .int) 2 := ⟨t_382, t_376, fun _ _ h => h _ t_380, t_381, t_5, by decide, by decide, by decide +kernel⟩
theorem su_Cr_Cd_shift : Su (⟨"LayeredPage$Coder", "shift", "()V"⟩ : MethodName) y_Cr_shift "LayeredPage$CodeReader" "LayeredPage$Coder" b_Cr_shift 1 none 0 := ⟨t_393, t_390, fun _ _ h => h _ t_391, t_392, t_8, by decide, by decide, by decide +kernel⟩
theorem su_Cw_Cd_shift : Su (⟨"LayeredPage$Coder", "shift", "()V"⟩ : MethodName) y_Cw_shift "LayeredPage$CodeWriter" "LayeredPage$Coder" b_Cw_shift 1 none 0 := ⟨t_396, t_390, fun _ _ h => h _ t_394, t_395, t_5, by decide, by decide, by decide +kernel⟩
theorem su_Cw_Cw_restart : Su (⟨"LayeredPage$CodeWriter", "restart", "()V"⟩ : MethodName) y_Cd_restart "LayeredPage$CodeWriter" "LayeredPage$Coder" b_Cd_restart 1 none 0 := ⟨t_63, t_347, fun _ _ h => sel_up (h _ t_62) (h _ t_347) (h _ t_60), t_59, t_4, by decide, by decide, by decide +kernel⟩
theorem su_Cw_Cd_tally : Su (⟨"LayeredPage$Coder", "tally", "(II)V"⟩ : MethodName) y_Cd_tally "LayeredPage$CodeWriter" "LayeredPage$Coder" b_Cd_tally 3 none 2 := ⟨t_386, t_851, fun _ _ h => h _ (List.mem_append_left _ (by unfold exW y_Cd_tally; simp)), t_385, t_4, by decide, by decide, by decide +kernel⟩
theorem su_Cr_Cr_restart : Su (⟨"LayeredPage$CodeReader", "restart", "()V"⟩ : MethodName) y_Cd_restart "LayeredPage$CodeReader" "LayeredPage$Coder" b_Cd_restart 1 none 0 := ⟨t_63, t_495, fun _ _ h => sel_up (h _ t_61) (h _ t_495) (h _ t_60), t_59, t_4, by decide, by decide, by decide +kernel⟩
theorem su_Cr_Cd_tally : Su (⟨"LayeredPage$Coder", "tally", "(II)V"⟩ : MethodName) y_Cd_tally "LayeredPage$CodeReader" "LayeredPage$Coder" b_Cd_tally 3 none 2 := ⟨t_386, t_851, fun _ _ h => h _ (List.mem_append_left _ (by unfold exW y_Cd_tally; simp)), t_385, t_4, by decide, by decide, by decide +kernel⟩
end
section
/-! ===== lN n to 2^64: shifts, and, or, masks, one bit ===== -/
theorem wb_tb (n : Nat) : (lN n).toBitVec = BitVec.ofNat 64 n := rfl
theorem wb_inj {a b : Int64} (h : a.toBitVec = b.toBitVec) : a = b := Int64.toBitVec_inj.mp h
theorem wb_tn {n : Nat} (h : n < 2 ^ 64) : (lN n).toBitVec.toNat = n := by rw [wb_tb, BitVec.toNat_ofNat, Nat.mod_eq_of_lt h]
theorem wb_of (x : Int64) : ∃ n, n < 2 ^ 64 ∧ x = lN n := ⟨x.toBitVec.toNat, x.toBitVec.isLt, wb_inj (by rw [wb_tb]; simp)⟩
theorem wb_of32 (x : Int32) : ∃ n, n < 2 ^ 32 ∧ x = nI n := ⟨x.toBitVec.toNat, x.toBitVec.isLt, Int32.toBitVec_inj.mp (by show _ = BitVec.ofNat 32 _; simp)⟩
theorem wb_c : ∀ k, k < 64 → ((nI k).toInt64 &&& 63) = lN k := by decide +kernel
theorem wb_cu : ∀ k, k < 64 → ((nI k).toInt64.toUInt64 &&& Int64.toUInt64 63) = UInt64.ofNat k := by decide +kernel
theorem wb_sm : ∀ k, k < 64 → (BitVec.ofNat 64 k).smod 64 = BitVec.ofNat 64 k := by decide +kernel
theorem wb_pw {a b : Nat} (h : a ≤ b) : 2 ^ b = 2 ^ a * 2 ^ (b - a) := by rw [← Nat.pow_add]; congr 1; omega
theorem wb_lt2 {a b : Nat} (h : a < b) : 2 ^ a < 2 ^ b := Nat.pow_lt_pow_right (by decide) h
theorem wb_mod (n : Nat) : lN n = lN (n % 2 ^ 64) := wb_inj (by rw [wb_tb, wb_tb]; apply BitVec.eq_of_toNat_eq; rw [BitVec.toNat_ofNat, BitVec.toNat_ofNat, Nat.mod_mod])
theorem wb_shr {n k : Nat} (hn : n < 2 ^ 64) (hk : k < 64) : ((lN n).toUInt64 >>> ((nI k).toInt64.toUInt64 &&& Int64.toUInt64 63)).toInt64 = lN (n / 2 ^ k) := by
  rw [wb_cu k hk]
  apply wb_inj
  apply BitVec.eq_of_toNat_eq
  show ((lN n).toUInt64 >>> UInt64.ofNat k).toNat = (BitVec.ofNat 64 _).toNat
  have h1 : (UInt64.ofNat k).toNat = k := by
    show (BitVec.ofNat 64 k).toNat = k
    rw [BitVec.toNat_ofNat, Nat.mod_eq_of_lt (by omega)]
  have h2 : (lN n).toUInt64.toNat = n := wb_tn hn
  rw [UInt64.toNat_shiftRight, h1, h2, Nat.mod_eq_of_lt hk, Nat.shiftRight_eq_div_pow, BitVec.toNat_ofNat, Nat.mod_eq_of_lt (Nat.lt_of_le_of_lt (Nat.div_le_self _ _) hn)]
theorem wb_shl (n : Nat) {k : Nat} (hk : k < 64) : lN n <<< ((nI k).toInt64 &&& 63) = lN (n * 2 ^ k) := by
  rw [wb_c k hk]
  apply wb_inj
  rw [Int64.toBitVec_shiftLeft, wb_tb, wb_tb, wb_tb, wb_sm k hk]
  apply BitVec.eq_of_toNat_eq
  rw [BitVec.shiftLeft_eq', BitVec.toNat_shiftLeft, BitVec.toNat_ofNat, BitVec.toNat_ofNat, BitVec.toNat_ofNat, Nat.mod_eq_of_lt (show k < 2 ^ 64 by omega), Nat.shiftLeft_eq, Nat.mul_mod, Nat.mod_mod, ← Nat.mul_mod]
theorem wb_and {a b : Nat} (ha : a < 2 ^ 64) (hb : b < 2 ^ 64) : lN a &&& lN b = lN (a &&& b) := by
  apply wb_inj
  rw [Int64.toBitVec_and, wb_tb, wb_tb, wb_tb]
  apply BitVec.eq_of_toNat_eq
  rw [BitVec.toNat_and, BitVec.toNat_ofNat, BitVec.toNat_ofNat, BitVec.toNat_ofNat, Nat.mod_eq_of_lt ha, Nat.mod_eq_of_lt hb, Nat.mod_eq_of_lt (Nat.and_lt_two_pow _ hb)]
theorem wb_or {a b : Nat} (ha : a < 2 ^ 64) (hb : b < 2 ^ 64) : lN a ||| lN b = lN (a ||| b) := by
  apply wb_inj
  rw [Int64.toBitVec_or, wb_tb, wb_tb, wb_tb]
  apply BitVec.eq_of_toNat_eq
  rw [BitVec.toNat_or, BitVec.toNat_ofNat, BitVec.toNat_ofNat, BitVec.toNat_ofNat, Nat.mod_eq_of_lt ha, Nat.mod_eq_of_lt hb, Nat.mod_eq_of_lt (Nat.or_lt_two_pow ha hb)]
theorem wb_mask {n k : Nat} (hn : n < 2 ^ 64) (hk : k < 64) : lN n &&& lN (2 ^ k - 1) = lN (n % 2 ^ k) := by
  rw [wb_and hn (by have := wb_lt2 hk; omega), Nat.and_two_pow_sub_one_eq_mod]
theorem wb_a1 {n : Nat} (hn : n < 2 ^ 64) : lN n &&& 1 = lN (n % 2) := wb_mask (k := 1) hn (by decide)
theorem wb_bit {n k : Nat} (hn : n < 2 ^ 64) (hk : k < 64) : ((lN n).toUInt64 >>> ((nI k).toInt64.toUInt64 &&& Int64.toUInt64 63)).toInt64 &&& 1 = lN (n / 2 ^ k % 2) := by
  rw [wb_shr hn hk, wb_a1 (Nat.lt_of_le_of_lt (Nat.div_le_self _ _) hn)]
theorem wb_xor {q k : Nat} (hk : k < 63) (h : 2 ^ k ≤ q) (h2 : q < 2 ^ (k + 1)) : lN q ^^^ lN (2 ^ k) = lN (q - 2 ^ k) := by
  obtain ⟨r, rfl⟩ : ∃ r, q = 2 ^ k + r := ⟨q - 2 ^ k, by omega⟩
  have hr : r < 2 ^ k := by rw [Nat.pow_succ] at h2; omega
  have hx : (2 ^ k + r) ^^^ 2 ^ k = r := by
    apply Nat.eq_of_testBit_eq
    intro i
    rw [Nat.testBit_xor, Nat.testBit_two_pow]
    rcases Nat.lt_trichotomy i k with h | h | h
    · rw [Nat.testBit_two_pow_add_gt h]
      simp [show ¬ k = i by omega]
    · subst h
      rw [Nat.testBit_two_pow_add_eq]
      simp
    · have a1 : 2 ^ (k + 1) ≤ 2 ^ i := Nat.pow_le_pow_right (by decide) h
      rw [Nat.testBit_lt_two_pow (show 2 ^ k + r < 2 ^ i by omega), Nat.testBit_lt_two_pow (show r < 2 ^ i by omega)]
      simp [show ¬ k = i by omega]
  have b1 := wb_lt2 (show k + 1 < 64 by omega)
  have b2 := wb_lt2 (show k < 64 by omega)
  apply wb_inj
  rw [Int64.toBitVec_xor, wb_tb, wb_tb, wb_tb]
  apply BitVec.eq_of_toNat_eq
  rw [BitVec.toNat_xor, BitVec.toNat_ofNat, BitVec.toNat_ofNat, BitVec.toNat_ofNat, Nat.mod_eq_of_lt (by omega : 2 ^ k + r < 2 ^ 64), Nat.mod_eq_of_lt b2, hx, Nat.add_sub_cancel_left, Nat.mod_eq_of_lt (by omega)]
end
section
/-! the code's own mathematics: counts, width, scale (CS); the sum that is written, the rest that is read -/
def upN (f : Nat → Nat) (k v : Nat) : Nat → Nat := fun j => if j = k then v else f j
abbrev CS : Type := (Nat → Nat) × (Nat → Nat) × Nat × Nat
def csSplit (K : CS) (c : Nat) : Nat := K.2.2.1 * K.1 c / (K.1 c + K.2.1 c)
def csHalf (z o : Nat) : Nat × Nat := if z + o = 32 then ((z + 1) / 2, (o + 1) / 2) else (z, o)
def nsh : Nat → Nat → Nat
  | 0, _ => 0
  | f + 1, w => if w ≤ 32768 then nsh f (2 * w) + 1 else 0
def csW (K : CS) (c b : Nat) : Nat := if b = 0 then csSplit K c else K.2.2.1 - csSplit K c
def csC (K : CS) (c b : Nat) : Nat × Nat := if b = 0 then csHalf (K.1 c + 1) (K.2.1 c) else csHalf (K.1 c) (K.2.1 c + 1)
def csN (K : CS) (c b : Nat) : Nat := nsh 16 (csW K c b)
def csStep (K : CS) (c b : Nat) : CS := (upN K.1 c (csC K c b).1, upN K.2.1 c (csC K c b).2, csW K c b * 2 ^ csN K c b, K.2.2.2 + csN K c b)
def csInit : CS := (fun _ => 1, fun _ => 1, 65536, 0)
def csOK (K : CS) : Prop := (∀ c, c < 48 → 1 ≤ K.1 c ∧ 1 ≤ K.2.1 c ∧ K.1 c + K.2.1 c ≤ 31) ∧ 32768 < K.2.2.1 ∧ K.2.2.1 ≤ 65536
theorem csInit_ok : csOK csInit := ⟨fun c _ => by simp [csInit], by simp [csInit], by simp [csInit]⟩
theorem csSplit_bd {K : CS} {c : Nat} (h : csOK K) (hc : c < 48) : 1057 ≤ csSplit K c ∧ csSplit K c + 1057 ≤ K.2.2.1 := by
  obtain ⟨z, o, w, sc⟩ := K
  obtain ⟨h1, h2, h3⟩ := h
  obtain ⟨hz, ho, hs⟩ := h1 c hc
  unfold csSplit
  dsimp only at *
  generalize z c = a at *
  generalize o c = b at *
  constructor
  · rw [Nat.le_div_iff_mul_le (by omega)]
    have h4 : w * 1 ≤ w * a := Nat.mul_le_mul_left _ hz
    omega
  · have h4 : w * a / (a + b) ≤ w - 1057 := by
      apply Nat.div_le_of_le_mul
      rw [Nat.add_mul]
      have e2 : w * a = a * 1057 + a * (w - 1057) := by
        rw [← Nat.mul_add, show 1057 + (w - 1057) = w by omega, Nat.mul_comm]
      have h5 : 1 * (w - 1057) ≤ b * (w - 1057) := Nat.mul_le_mul_right _ ho
      omega
    omega
theorem csW_bd {K : CS} {c b : Nat} (h : csOK K) (hc : c < 48) : 1057 ≤ csW K c b ∧ csW K c b ≤ 65536 := by
  have h1 := csSplit_bd h hc
  have h2 := h.2.2
  unfold csW
  split <;> omega
theorem nsh_spec : ∀ (f w : Nat), 1 ≤ w → w ≤ 65536 → 32768 < w * 2 ^ f → 32768 < w * 2 ^ nsh f w ∧ w * 2 ^ nsh f w ≤ 65536
  | 0, w, h1, h2, h3 => by simp [nsh] at *; omega
  | f + 1, w, h1, h2, h3 => by
    unfold nsh
    split
    · rename_i h
      have h4 := nsh_spec f (2 * w) (by omega) (by omega) (by rw [Nat.pow_succ] at h3; rw [Nat.mul_comm 2 w, Nat.mul_assoc, Nat.mul_comm 2]; exact h3)
      rw [Nat.pow_succ]
      have e : 2 * w * 2 ^ nsh f (2 * w) = w * (2 ^ nsh f (2 * w) * 2) := by
        rw [Nat.mul_comm 2 w, Nat.mul_assoc, Nat.mul_comm 2]
      rw [e] at h4
      exact h4
    · simp; omega
theorem nsh_le5 {w : Nat} (h : 1057 ≤ w) : nsh 16 w ≤ 5 := by
  have s : ∀ f v, 32768 < v → nsh f v = 0 := by
    intro f v hv
    cases f with
    | zero => rfl
    | succ f => unfold nsh; rw [if_neg (by omega)]
  have t : ∀ f v k, (∀ u, 2 * v ≤ u → nsh f u ≤ k) → nsh (f + 1) v ≤ k + 1 := by
    intro f v k hk
    unfold nsh
    split
    · have := hk (2 * v) (Nat.le_refl _)
      omega
    · omega
  refine t 15 w 4 (fun u hu => t 14 u 3 (fun u2 h2 => t 13 u2 2 (fun u3 h3 => t 12 u3 1 (fun u4 h4 => t 11 u4 0 (fun u5 h5 => ?_)))))
  rw [s 11 u5 (by omega)]
  exact Nat.le_refl _
theorem csHalf_bd {z o : Nat} (h1 : 1 ≤ z) (h2 : 1 ≤ o) (h3 : z + o ≤ 32) : 1 ≤ (csHalf z o).1 ∧ 1 ≤ (csHalf z o).2 ∧ (csHalf z o).1 + (csHalf z o).2 ≤ 31 := by
  unfold csHalf
  split
  · dsimp only
    omega
  · dsimp only
    omega
theorem csStep_ok {K : CS} {c b : Nat} (h : csOK K) (hc : c < 48) : csOK (csStep K c b) := by
  have hw := csW_bd (b := b) h hc
  have hn := nsh_spec 16 (csW K c b) (by omega) hw.2 (by have : 1057 * 2 ^ 16 ≤ csW K c b * 2 ^ 16 := Nat.mul_le_mul_right _ hw.1; omega)
  refine ⟨fun i hi => ?_, hn.1, hn.2⟩
  have hi0 := h.1 i hi
  by_cases e : i = c
  · subst e
    have key : 1 ≤ (csC K i b).1 ∧ 1 ≤ (csC K i b).2 ∧ (csC K i b).1 + (csC K i b).2 ≤ 31 := by
      unfold csC
      split
      · exact csHalf_bd (by omega) (by omega) (by omega)
      · exact csHalf_bd (by omega) (by omega) (by omega)
    simp only [csStep, upN, if_true]
    exact key
  · simp only [csStep, upN, if_neg e]
    exact hi0
theorem csStep_sc {K : CS} {c b : Nat} (h : csOK K) (hc : c < 48) : (csStep K c b).2.2.2 ≤ K.2.2.2 + 5 := by
  have hw := csW_bd (b := b) h hc
  have := nsh_le5 hw.1
  show K.2.2.2 + nsh 16 (csW K c b) ≤ _
  omega
/-- what is written: the sum in steps of 1 / 2^(16 + scale) -/
def wStep (S : CS × Nat) (c b : Nat) : CS × Nat := (csStep S.1 c b, (S.2 + (if b = 0 then 0 else csSplit S.1 c)) * 2 ^ csN S.1 c b)
/-- what is read: the bit, and the rest with further digits behind it -/
def rBit (S : CS × Nat) (c : Nat) : Nat := if S.2 < csSplit S.1 c then 0 else 1
def shin (D : Nat → Nat) : Nat → Nat → Nat → Nat
  | _, 0, v => v
  | pos, n + 1, v => shin D (pos + 1) n (2 * v + D pos)
def rStep (D : Nat → Nat) (S : CS × Nat) (c : Nat) : CS × Nat := (csStep S.1 c (rBit S c), shin D (16 + S.1.2.2.2) (csN S.1 c (rBit S c)) (S.2 - (if rBit S c = 0 then 0 else csSplit S.1 c)))
theorem rBit_01 (S : CS × Nat) (c : Nat) : rBit S c = 0 ∨ rBit S c = 1 := by
  unfold rBit
  split
  · exact Or.inl rfl
  · exact Or.inr rfl
theorem shin_lt {D : Nat → Nat} (hD : ∀ i, D i ≤ 1) : ∀ (n pos v w : Nat), v < w → shin D pos n v < w * 2 ^ n
  | 0, pos, v, w, h => by simpa [shin] using h
  | n + 1, pos, v, w, h => by
    have := shin_lt hD n (pos + 1) (2 * v + D pos) (2 * w) (by have := hD pos; omega)
    have e : w * 2 ^ (n + 1) = 2 * w * 2 ^ n := by rw [Nat.pow_succ, Nat.mul_comm (2 ^ n) 2, ← Nat.mul_assoc, Nat.mul_comm w 2]
    rw [e]
    exact this
/-- the rest stays below the width -/
theorem rStep_lt {D : Nat → Nat} {S : CS × Nat} {c : Nat} (hD : ∀ i, D i ≤ 1) (h : S.2 < S.1.2.2.1) : (rStep D S c).2 < (rStep D S c).1.2.2.1 := by
  show shin D _ (csN S.1 c (rBit S c)) _ < csW S.1 c (rBit S c) * 2 ^ csN S.1 c (rBit S c)
  apply shin_lt hD
  unfold csW rBit
  split
  · rename_i e
    simp only [if_true]
    simpa using e
  · rename_i e
    simp
    omega
/-- the fraction's first m digits as a number -/
def FF (v sc m : Nat) : Nat := v * 2 ^ m / 2 ^ (16 + sc)
def cbyte (v sc j : Nat) : Nat := FF v sc (8 * j + 8) % 256
def cdig (v sc i : Nat) : Nat := FF v sc (i + 1) % 2
theorem FF_half (v sc m : Nat) : FF v sc (m + 1) / 2 = FF v sc m := by
  unfold FF
  rw [Nat.div_div_eq_div_mul, Nat.pow_succ, ← Nat.mul_assoc]
  rw [Nat.mul_div_mul_right _ _ (by decide)]
theorem FF_scale (v sc n m : Nat) : FF (v * 2 ^ n) (sc + n) m = FF v sc m := by
  unfold FF
  rw [show 16 + (sc + n) = (16 + sc) + n by omega, Nat.pow_add, Nat.mul_right_comm]
  rw [Nat.mul_div_mul_right _ _ (Nat.pow_pos (by decide))]
theorem FF_hi {v sc m : Nat} (h : 16 + sc ≤ m) : FF v sc m = v * 2 ^ (m - (16 + sc)) := by
  unfold FF
  obtain ⟨d, rfl⟩ : ∃ d, m = (16 + sc) + d := ⟨m - (16 + sc), by omega⟩
  rw [Nat.pow_add, Nat.mul_comm (2 ^ (16 + sc)), ← Nat.mul_assoc, Nat.mul_div_cancel _ (Nat.pow_pos (by decide))]
  congr 2
  omega
theorem FF_lo {v sc m : Nat} (h : m ≤ 16 + sc) : FF v sc m = v / 2 ^ (16 + sc - m) := by
  unfold FF
  obtain ⟨d, hd⟩ : ∃ d, 16 + sc = d + m := ⟨16 + sc - m, by omega⟩
  rw [hd, Nat.pow_add, Nat.mul_div_mul_right _ _ (Nat.pow_pos (by decide))]
  congr 2
  omega
theorem cdig_lt (v sc i : Nat) : cdig v sc i < 2 := Nat.mod_lt _ (by decide)
theorem cbyte_lt (v sc i : Nat) : cbyte v sc i < 256 := Nat.mod_lt _ (by decide)
theorem cdig_hi {v sc i : Nat} (h : 16 + sc ≤ i) : cdig v sc i = 0 := by
  unfold cdig
  rw [FF_hi (by omega), show i + 1 - (16 + sc) = (i - (16 + sc)) + 1 by omega, Nat.pow_succ, ← Nat.mul_assoc]
  exact Nat.mul_mod_left _ _
theorem cbyte_hi {v sc j : Nat} (h : 16 + sc ≤ 8 * j) : cbyte v sc j = 0 := by
  unfold cbyte
  rw [FF_hi (by omega), show 8 * j + 8 - (16 + sc) = (8 * j - (16 + sc)) + 8 by omega, Nat.pow_add, ← Nat.mul_assoc]
  exact Nat.mul_mod_left _ _
/-- eight digits make a byte -/
def acc8 (v sc k : Nat) : Nat → Nat
  | 0 => 0
  | i + 1 => 2 * acc8 v sc k i + cdig v sc (8 * k + i)
theorem acc8_eq (v sc k : Nat) : ∀ i, acc8 v sc k i + 2 ^ i * FF v sc (8 * k) = FF v sc (8 * k + i)
  | 0 => by simp [acc8]
  | i + 1 => by
    have h1 := acc8_eq v sc k i
    have h2 := FF_half v sc (8 * k + i)
    unfold acc8 cdig
    rw [Nat.pow_succ, Nat.mul_comm (2 ^ i) 2, Nat.mul_assoc]
    have e : 8 * k + (i + 1) = 8 * k + i + 1 := by omega
    rw [e]
    omega
theorem acc8_byte (v sc k : Nat) : acc8 v sc k 8 = cbyte v sc k := by
  have h := acc8_eq v sc k 8
  have key : ∀ i, acc8 v sc k i < 2 ^ i := by
    intro i
    induction i with
    | zero => simp [acc8]
    | succ i ih =>
      have := cdig_lt v sc (8 * k + i)
      unfold acc8
      rw [Nat.pow_succ]
      omega
  have h2 := key 8
  unfold cbyte
  rw [← h]
  omega
end
section
/-! shapes, layers: what their codes are, in the mode of writing (none) or of reading digits D (some D) -/
def kBit (md : Option (Nat → Nat)) (S : CS × Nat) (c b : Nat) : Nat := match md with
  | none => b
  | some _ => rBit S c
def kStep (md : Option (Nat → Nat)) (S : CS × Nat) (c b : Nat) : CS × Nat := match md with
  | none => wStep S c b
  | some D => rStep D S c
theorem kStep_cs (md : Option (Nat → Nat)) (S : CS × Nat) (c b : Nat) : (kStep md S c b).1 = csStep S.1 c (kBit md S c b) := by
  cases md <;> rfl
theorem kBit_01 {md : Option (Nat → Nat)} {S : CS × Nat} {c b : Nat} (hb : b ≤ 1) : kBit md S c b ≤ 1 := by
  cases md with
  | none => exact hb
  | some D => rcases rBit_01 S c with h | h <;> (show rBit S c ≤ 1) <;> omega
/-- the digits read are digits, and the rest lies below the width -/
def mdOK (md : Option (Nat → Nat)) (S : CS × Nat) : Prop := match md with
  | none => True
  | some D => (∀ i, D i ≤ 1) ∧ S.2 < S.1.2.2.1
theorem mdOK_step {md : Option (Nat → Nat)} {S : CS × Nat} {c b : Nat} (h : mdOK md S) : mdOK md (kStep md S c b) := by
  cases md with
  | none => trivial
  | some D => exact ⟨h.1, rStep_lt h.1 h.2⟩
def kv0 (md : Option (Nat → Nat)) : Nat := match md with
  | none => 0
  | some D => shin D 0 16 0
def kInit (md : Option (Nat → Nat)) : CS × Nat := (csInit, kv0 md)
theorem mdOK_init {md : Option (Nat → Nat)} (h : ∀ D, md = some D → ∀ i, D i ≤ 1) : mdOK md (kInit md) := by
  cases md with
  | none => trivial
  | some D =>
    refine ⟨h D rfl, ?_⟩
    have := shin_lt (h D rfl) 16 0 0 1 (by decide)
    show shin D 0 16 0 < 65536
    omega
def sb (n w h : Nat) (x y : Int) : Nat := if 0 ≤ x ∧ x < w ∧ 0 ≤ y ∧ y < h then n / 2 ^ (8 * y.toNat + x.toNat) % 2 else 0
theorem sb_le (n w h : Nat) (x y : Int) : sb n w h x y ≤ 1 := by
  unfold sb
  split <;> omega
def cxA (f : Int → Int → Nat) (x y : Int) : Nat := f (x - 1) y + 2 * f (x - 1) (y - 1) + 4 * f x (y - 1) + 8 * f (x + 1) (y - 1)
def cxB (f p : Int → Int → Nat) (x y : Int) : Nat := 16 + f (x - 1) y + 2 * f x (y - 1) + 4 * p x y + 8 * p (x + 1) y + 16 * p x (y + 1)
def cxS (hb : Bool) (f p : Int → Int → Nat) (x y : Int) : Nat := if hb then cxB f p x y else cxA f x y
theorem cxS_lt {hb : Bool} {f p : Int → Int → Nat} (hf : ∀ x y, f x y ≤ 1) (hp : ∀ x y, p x y ≤ 1) (x y : Int) : cxS hb f p x y < 48 := by
  unfold cxS cxA cxB
  have h1 := hf (x - 1) y
  have h2 := hf (x - 1) (y - 1)
  have h3 := hf x (y - 1)
  have h4 := hf (x + 1) (y - 1)
  have h5 := hp x y
  have h6 := hp (x + 1) y
  have h7 := hp x (y + 1)
  split <;> omega
abbrev SH : Type := (CS × Nat) × Nat
def shStep (md : Option (Nat → Nat)) (hb : Bool) (p giv : Int → Int → Nat) (y x : Nat) (s : SH) : SH :=
  (kStep md s.1 (cxS hb (sb s.2 8 8) p x y) (giv x y), if kBit md s.1 (cxS hb (sb s.2 8 8) p x y) (giv x y) = 0 then s.2 else s.2 ||| 2 ^ (8 * y + x))
def shX (md : Option (Nat → Nat)) (hb : Bool) (p giv : Int → Int → Nat) (y : Nat) (s : SH) : Nat → SH
  | 0 => s
  | x + 1 => shStep md hb p giv y x (shX md hb p giv y s x)
def shY (md : Option (Nat → Nat)) (hb : Bool) (p giv : Int → Int → Nat) (w : Nat) : Nat → SH
  | 0 => (kInit md, 0)
  | y + 1 => shX md hb p giv y (shY md hb p giv w y) w
/-- what holds at every point of a shape's code: counts, rest, scale, and the bits that stand -/
def shInv (md : Option (Nat → Nat)) (w y x t : Nat) (s : SH) : Prop :=
  csOK s.1.1 ∧ mdOK md s.1 ∧ s.1.1.2.2.2 ≤ 5 * t ∧ s.2 < 2 ^ 64 ∧ ∀ i j, i < 8 → s.2.testBit (8 * j + i) = true → i < w ∧ (j < y ∨ (j = y ∧ i < x))
theorem shStep_inv {md : Option (Nat → Nat)} {hb : Bool} {p giv : Int → Int → Nat} {w y x t : Nat} {s : SH} (hp : ∀ x y, p x y ≤ 1) (hx : x < w) (hw : w ≤ 8) (hy : y < 8) (h : shInv md w y x t s) : shInv md w y (x + 1) (t + 1) (shStep md hb p giv y x s) := by
  obtain ⟨h1, h2, h3, h4, h5⟩ := h
  have hc := cxS_lt (hb := hb) (sb_le s.2 8 8) hp x y
  refine ⟨?_, mdOK_step h2, ?_, ?_, ?_⟩
  · show csOK (kStep md s.1 _ _).1
    rw [kStep_cs]
    exact csStep_ok h1 hc
  · show (kStep md s.1 _ _).1.2.2.2 ≤ _
    rw [kStep_cs]
    have := csStep_sc (b := kBit md s.1 (cxS hb (sb s.2 8 8) p x y) (giv x y)) h1 hc
    omega
  · show (if _ then _ else _) < 2 ^ 64
    split
    · exact h4
    · exact Nat.or_lt_two_pow h4 (Nat.pow_lt_pow_right (by decide) (by omega))
  · intro i j hi hb2
    show i < w ∧ (j < y ∨ (j = y ∧ i < x + 1))
    have hb3 : (if kBit md s.1 (cxS hb (sb s.2 8 8) p x y) (giv x y) = 0 then s.2 else s.2 ||| 2 ^ (8 * y + x)).testBit (8 * j + i) = true := hb2
    split at hb3
    · have := h5 i j hi hb3
      omega
    · rw [Nat.testBit_or, Bool.or_eq_true] at hb3
      rcases hb3 with hb3 | hb3
      · have := h5 i j hi hb3
        omega
      · rw [Nat.testBit_two_pow] at hb3
        have e : 8 * y + x = 8 * j + i := by simpa using hb3
        omega
theorem shX_inv {md : Option (Nat → Nat)} {hb : Bool} {p giv : Int → Int → Nat} {w y t : Nat} {s : SH} (hp : ∀ x y, p x y ≤ 1) (hw : w ≤ 8) (hy : y < 8) (h : shInv md w y 0 t s) : ∀ x, x ≤ w → shInv md w y x (t + x) (shX md hb p giv y s x)
  | 0, _ => h
  | x + 1, hx => shStep_inv hp (by omega) hw hy (shX_inv hp hw hy h x (by omega))
theorem shInv_next {md : Option (Nat → Nat)} {w y t : Nat} {s : SH} (h : shInv md w y w t s) : shInv md w (y + 1) 0 t s := by
  obtain ⟨h1, h2, h3, h4, h5⟩ := h
  refine ⟨h1, h2, h3, h4, fun i j hi hb => ?_⟩
  have := h5 i j hi hb
  omega
theorem shY_inv {md : Option (Nat → Nat)} {hb : Bool} {p giv : Int → Int → Nat} {w : Nat} (hD : ∀ D, md = some D → ∀ i, D i ≤ 1) (hp : ∀ x y, p x y ≤ 1) (hw : w ≤ 8) : ∀ y, y ≤ 8 → shInv md w y 0 (w * y) (shY md hb p giv w y)
  | 0, _ => ⟨csInit_ok, mdOK_init hD, by simp [shY, kInit, csInit], by simp [shY], fun i j _ hb => by simp [shY] at hb⟩
  | y + 1, hy => shInv_next (shX_inv hp hw (by omega) (shY_inv hD hp hw y (by omega)) w (Nat.le_refl _))
/-! layers -/
def gbit (c : Int32) (b : Nat) : Nat := (((if 0 ≤ c then c else 0 - c) >>> (nI b &&& 31)) &&& 1).toNatClampNeg
abbrev LY : Type := (CS × Nat) × (Nat → Nat) × (Nat → Bool)
def lyC (n : Nat) (pf : Nat → Nat) (k : Nat) : Nat := if pf k = 0 then (if 0 < k % n ∧ 0 < pf (k - 1) then 1 else 0) + (if n ≤ k ∧ 0 < pf (k - n) then 1 else 0) else 4
def upB (f : Nat → Bool) (k : Nat) (v : Bool) : Nat → Bool := fun j => if j = k then v else f j
def lyStep (md : Option (Nat → Nat)) (n : Nat) (cf : Nat → Int32) (b k : Nat) (s : LY) : LY :=
  let c := lyC n s.2.1 k
  let v := kBit md s.1 c (gbit (cf k) b)
  let S1 := kStep md s.1 c (gbit (cf k) b)
  let sg := if s.2.2 k then 1 else 0
  if s.2.1 k = 0 ∧ v = 1 then (kStep md S1 3 sg, upN s.2.1 k 1, upB s.2.2 k (decide (kBit md S1 3 sg = 1)))
  else (S1, upN s.2.1 k (2 * s.2.1 k + v), s.2.2)
def lyK (md : Option (Nat → Nat)) (n : Nat) (cf : Nat → Int32) (b : Nat) (s : LY) : Nat → LY
  | 0 => s
  | k + 1 => lyStep md n cf b k (lyK md n cf b s k)
def lyP (md : Option (Nat → Nat)) (n : Nat) (cf : Nat → Int32) : Nat → LY
  | 0 => (kInit md, fun _ => 0, fun k => decide (cf k < 0))
  | p + 1 => lyK md n cf (9 - p) (lyP md n cf p) (n * n)
/-- how many of the first N have begun -/
def cntB (pf : Nat → Nat) : Nat → Nat
  | 0 => 0
  | N + 1 => cntB pf N + (if 0 < pf N then 1 else 0)
theorem cntB_le (pf : Nat → Nat) : ∀ N, cntB pf N ≤ N
  | 0 => Nat.le_refl _
  | N + 1 => by
    have := cntB_le pf N
    unfold cntB
    split <;> omega
theorem cntB_up {pf : Nat → Nat} {k v : Nat} (hv : 0 < pf k → 0 < v) : ∀ N, cntB pf N ≤ cntB (upN pf k v) N
  | 0 => Nat.le_refl _
  | N + 1 => by
    have := cntB_up hv N
    unfold cntB
    by_cases e : N = k
    · subst e
      simp only [upN, if_true]
      by_cases h : 0 < pf N
      · simp only [h, hv h, if_true]; omega
      · simp only [h, if_false]; split <;> omega
    · simp only [upN, if_neg e]; omega
theorem cntB_new {pf : Nat → Nat} {k : Nat} (h0 : pf k = 0) : ∀ N, k < N → cntB pf N + 1 ≤ cntB (upN pf k 1) N
  | 0, h => by omega
  | N + 1, h => by
    unfold cntB
    by_cases e : N = k
    · subst e
      have := cntB_up (pf := pf) (k := N) (v := 1) (fun _ => by decide) N
      simp only [upN, if_true, h0]
      simp
      omega
    · have := cntB_new h0 N (by omega)
      simp only [upN, if_neg e]
      omega
def lyInv (md : Option (Nat → Nat)) (N t : Nat) (s : LY) : Prop := csOK s.1.1 ∧ mdOK md s.1 ∧ s.1.1.2.2.2 ≤ 5 * (t + cntB s.2.1 N)
theorem lyC_lt {n : Nat} {pf : Nat → Nat} {k : Nat} : lyC n pf k < 48 := by
  unfold lyC
  split
  · split <;> split <;> omega
  · omega
theorem lyStep_inv {md : Option (Nat → Nat)} {n : Nat} {cf : Nat → Int32} {b k N t : Nat} {s : LY} (hk : k < N) (h : lyInv md N t s) : lyInv md N (t + 1) (lyStep md n cf b k s) := by
  obtain ⟨h1, h2, h3⟩ := h
  have a1 : csOK (kStep md s.1 (lyC n s.2.1 k) (gbit (cf k) b)).1 := by rw [kStep_cs]; exact csStep_ok h1 lyC_lt
  have a2 : mdOK md (kStep md s.1 (lyC n s.2.1 k) (gbit (cf k) b)) := mdOK_step h2
  have a3 : (kStep md s.1 (lyC n s.2.1 k) (gbit (cf k) b)).1.2.2.2 ≤ s.1.1.2.2.2 + 5 := by rw [kStep_cs]; exact csStep_sc h1 lyC_lt
  unfold lyStep
  dsimp only
  split
  · rename_i e
    refine ⟨by rw [kStep_cs]; exact csStep_ok a1 (by decide), mdOK_step a2, ?_⟩
    show (kStep md _ 3 _).1.2.2.2 ≤ 5 * (t + 1 + cntB (upN s.2.1 k 1) N)
    rw [kStep_cs]
    have a4 := csStep_sc (c := 3) (b := kBit md (kStep md s.1 (lyC n s.2.1 k) (gbit (cf k) b)) 3 (if s.2.2 k = true then 1 else 0)) a1 (by decide)
    have a5 := cntB_new e.1 N hk
    omega
  · refine ⟨a1, a2, ?_⟩
    show (kStep md s.1 (lyC n s.2.1 k) (gbit (cf k) b)).1.2.2.2 ≤ 5 * (t + 1 + cntB (upN s.2.1 k _) N)
    have a5 := cntB_up (pf := s.2.1) (k := k) (v := 2 * s.2.1 k + kBit md s.1 (lyC n s.2.1 k) (gbit (cf k) b)) (fun h => by omega) N
    omega
theorem lyK_inv {md : Option (Nat → Nat)} {n : Nat} {cf : Nat → Int32} {b N t : Nat} {s : LY} (h : lyInv md N t s) : ∀ k, k ≤ N → lyInv md N (t + k) (lyK md n cf b s k)
  | 0, _ => h
  | k + 1, hk => lyStep_inv (by omega) (lyK_inv h k (by omega))
theorem lyP_inv {md : Option (Nat → Nat)} {n : Nat} {cf : Nat → Int32} (hD : ∀ D, md = some D → ∀ i, D i ≤ 1) : ∀ p, lyInv md (n * n) (p * (n * n)) (lyP md n cf p)
  | 0 => ⟨csInit_ok, mdOK_init hD, by simp [lyP, kInit, csInit]⟩
  | p + 1 => by
    have := lyK_inv (n := n) (cf := cf) (b := 9 - p) (lyP_inv (n := n) (cf := cf) hD p) (n * n) (Nat.le_refl _)
    rw [← Nat.succ_mul] at this
    exact this
end
section
/-! squares of numbers, lifting -/
def flat (n : Nat) (G : Nat → Nat → Int32) : Nat → Int32 := fun k => G (k / n) (k % n)
theorem dm_at {n y x : Nat} (hx : x < n) : (n * y + x) / n = y ∧ (n * y + x) % n = x := by
  have h0 : 0 < n := by omega
  constructor
  · rw [Nat.mul_add_div h0, Nat.div_eq_of_lt hx, Nat.add_zero]
  · rw [Nat.mul_add_mod, Nat.mod_eq_of_lt hx]
theorem flat_at {n : Nat} {G : Nat → Nat → Int32} {y x : Nat} (hx : x < n) : flat n G (n * y + x) = G y x := by
  unfold flat
  rw [(dm_at hx).1, (dm_at hx).2]
def up2 (G : Nat → Nat → Int32) (y x : Nat) (v : Int32) : Nat → Nat → Int32 := fun b a => if b = y ∧ a = x then v else G b a
theorem flat_up {n : Nat} {G : Nat → Nat → Int32} {y x : Nat} {v : Int32} (hx : x < n) : upd (flat n G) (n * y + x) v = flat n (up2 G y x v) := by
  funext k
  unfold upd flat up2
  by_cases e : k = n * y + x
  · subst e
    rw [if_pos rfl, if_pos (dm_at hx)]
  · rw [if_neg e, if_neg]
    rintro ⟨h1, h2⟩
    apply e
    rw [← h1, ← h2]
    exact (Nat.div_add_mod k n).symm
def lfD (x : Nat → Int32) (m i : Nat) : Int32 := x (2 * i + 1) - ((x (2 * i) + x (if 2 * i + 2 < m then 2 * i + 2 else m - 2)) >>> (nI 1 &&& 31))
def lfS (x : Nat → Int32) (m i : Nat) : Int32 := x (2 * i) + ((lfD x m (i - 1) + lfD x m i + nI 2) >>> (nI 2 &&& 31))
def lfR (m : Nat) (x : Nat → Int32) : Nat → Int32 := fun i => if i < m / 2 then lfS x m i else if i < m then lfD x m (i - m / 2) else x i
def drE (x : Nat → Int32) (m i : Nat) : Int32 := x i - ((x (m / 2 + (i - 1)) + x (m / 2 + i) + nI 2) >>> (nI 2 &&& 31))
def drO (x : Nat → Int32) (m i : Nat) : Int32 := x (m / 2 + i) + ((drE x m i + drE x m (if 2 * i + 2 < m then i + 1 else m / 2 - 1)) >>> (nI 1 &&& 31))
def drR (m : Nat) (x : Nat → Int32) : Nat → Int32 := fun j => if j < m then (if j % 2 = 0 then drE x m (j / 2) else drO x m (j / 2)) else x j
/-- a line of a square: its places from, from + step .. -/
def lnU (fr st m : Nat) (f F : Nat → Int32) : Nat → Int32 := fun k => if fr ≤ k ∧ (k - fr) % st = 0 ∧ (k - fr) / st < m then F ((k - fr) / st) else f k
theorem lnU_at {fr st m i : Nat} {f F : Nat → Int32} (hs : 0 < st) (hi : i < m) : lnU fr st m f F (fr + i * st) = F i := by
  unfold lnU
  have e : fr + i * st - fr = i * st := by omega
  rw [e, Nat.mul_mod_left, Nat.mul_div_cancel _ hs, if_pos ⟨by omega, rfl, hi⟩]
/-- the first j rows, the first j columns are lifted (R := lfR m), or undone (R := drR m) -/
def rowsU (R : (Nat → Int32) → Nat → Int32) (j : Nat) (G : Nat → Nat → Int32) : Nat → Nat → Int32 := fun y x => if y < j then R (G y) x else G y x
def colsU (R : (Nat → Int32) → Nat → Int32) (j : Nat) (G : Nat → Nat → Int32) : Nat → Nat → Int32 := fun y x => if x < j then R (fun i => G i x) y else G y x
def levL (m : Nat) (G : Nat → Nat → Int32) : Nat → Nat → Int32 := colsU (lfR m) m (rowsU (lfR m) m G)
def levD (m : Nat) (G : Nat → Nat → Int32) : Nat → Nat → Int32 := rowsU (drR m) m (colsU (drR m) m G)
def liftN (n : Nat) (G : Nat → Nat → Int32) : Nat → Nat → Int32 := if n = 8 then levL 2 (levL 4 (levL 8 G)) else levL 2 (levL 4 G)
def undoN (n : Nat) (G : Nat → Nat → Int32) : Nat → Nat → Int32 := if n = 8 then levD 8 (levD 4 (levD 2 G)) else levD 4 (levD 2 G)
/-- lines leave what lies behind m -/
def keepsM (R : (Nat → Int32) → Nat → Int32) (m : Nat) : Prop := (∀ x i, m ≤ i → R x i = x i) ∧ ∀ x x' i, (∀ j, j < m → x j = x' j) → i < m → R x i = R x' i
theorem lfR_keeps {m : Nat} (hm : m % 2 = 0) (h2 : 2 ≤ m) : keepsM (lfR m) m := by
  refine ⟨fun x i h => ?_, fun x x' i h hi => ?_⟩
  · unfold lfR
    rw [if_neg (by omega), if_neg (by omega)]
  · have hd : ∀ j, j < m / 2 → lfD x m j = lfD x' m j := by
      intro j hj
      unfold lfD
      rw [h (2 * j + 1) (by omega), h (2 * j) (by omega)]
      split
      · rw [h (2 * j + 2) (by omega)]
      · rw [h (m - 2) (by omega)]
    unfold lfR
    by_cases h1 : i < m / 2
    · rw [if_pos h1, if_pos h1]
      unfold lfS
      rw [h (2 * i) (by omega), hd i h1, hd (i - 1) (by omega)]
    · rw [if_neg h1, if_neg h1, if_pos hi, if_pos hi, hd _ (by omega)]
theorem drR_keeps {m : Nat} (hm : m % 2 = 0) (h2 : 2 ≤ m) : keepsM (drR m) m := by
  refine ⟨fun x i h => ?_, fun x x' i h hi => ?_⟩
  · unfold drR
    rw [if_neg (by omega)]
  · have he : ∀ j, j < m / 2 → drE x m j = drE x' m j := by
      intro j hj
      unfold drE
      rw [h j (by omega), h (m / 2 + (j - 1)) (by omega), h (m / 2 + j) (by omega)]
    unfold drR
    rw [if_pos hi, if_pos hi]
    split
    · exact he _ (by omega)
    · unfold drO
      rw [h (m / 2 + i / 2) (by omega), he (i / 2) (by omega)]
      split
      · rw [he (i / 2 + 1) (by omega)]
      · rw [he (m / 2 - 1) (by omega)]
end
section
/-! the document's bytes as a list; a code's bytes behind it -/
def rowOf (l : List Nat) : Nat → Int32 := fun k => nI (l.getD k 0)
theorem getD_lt {l : List Nat} {k : Nat} (h : k < l.length) : ∃ v, l[k]? = some v ∧ l.getD k 0 = v := ⟨l[k], by simp [h], by simp [List.getD_eq_getElem?_getD, h]⟩
theorem getD_ge {l : List Nat} {k : Nat} (h : l.length ≤ k) : l.getD k 0 = 0 := by
  rw [List.getD_eq_getElem?_getD, List.getElem?_eq_none h]
  rfl
theorem getD_app1 {l l' : List Nat} {k : Nat} (h : k < l.length) : (l ++ l').getD k 0 = l.getD k 0 := by
  rw [List.getD_eq_getElem?_getD, List.getD_eq_getElem?_getD, List.getElem?_append_left h]
theorem getD_app2 {l l' : List Nat} {k : Nat} (h : l.length ≤ k) : (l ++ l').getD k 0 = l'.getD (k - l.length) 0 := by
  rw [List.getD_eq_getElem?_getD, List.getD_eq_getElem?_getD, List.getElem?_append_right h]
theorem rowOf_app (l : List Nat) (v : Nat) : upd (rowOf l) l.length (nI v) = rowOf (l ++ [v]) := by
  funext k
  unfold upd rowOf
  by_cases e : k = l.length
  · subst e
    rw [if_pos rfl, getD_app2 (Nat.le_refl _)]
    simp
  · rw [if_neg e]
    by_cases h : k < l.length
    · rw [getD_app1 h]
    · rw [getD_ge (by omega), getD_ge (by simp; omega)]
theorem rowOf_set {l : List Nat} {i : Nat} (v : Nat) (hi : i < l.length) : upd (rowOf l) i (nI v) = rowOf (l.set i v) := by
  funext k
  unfold upd rowOf
  by_cases e : k = i
  · subst e
    rw [if_pos rfl, List.getD_eq_getElem?_getD, List.getElem?_set_self hi]
    rfl
  · rw [if_neg e, List.getD_eq_getElem?_getD, List.getD_eq_getElem?_getD, List.getElem?_set_ne (Ne.symm e)]
def rowW (l : List Nat) (v sc : Nat) : Nat → Int32 := fun k => if k < l.length then nI (l.getD k 0) else nI (cbyte v sc (k - l.length))
def cbytes (v sc : Nat) : List Nat := (List.range ((16 + sc + 7) / 8)).map (cbyte v sc)
theorem cbyte_0 (sc j : Nat) : cbyte 0 sc j = 0 := by simp [cbyte, FF]
theorem rowW_0 (l : List Nat) (sc : Nat) : rowW l 0 sc = rowOf l := by
  funext k
  unfold rowW rowOf
  split
  · rfl
  · rw [cbyte_0, getD_ge (by omega)]
theorem rowW_end (l : List Nat) (v sc : Nat) : rowW l v sc = rowOf (l ++ cbytes v sc) := by
  funext k
  unfold rowW rowOf
  split
  · rename_i h
    rw [getD_app1 h]
  · rename_i h
    rw [getD_app2 (by omega)]
    generalize k - l.length = j
    congr 1
    by_cases hj : j < (16 + sc + 7) / 8
    · rw [List.getD_eq_getElem?_getD]
      simp [cbytes, hj]
    · rw [getD_ge (by simp [cbytes]; omega), cbyte_hi (by omega)]
theorem cbyte_scale (v sc n j : Nat) : cbyte (v * 2 ^ n) (sc + n) j = cbyte v sc j := by
  unfold cbyte
  rw [FF_scale]
theorem rowW_scale (l : List Nat) (v sc n : Nat) : rowW l (v * 2 ^ n) (sc + n) = rowW l v sc := by
  funext k
  unfold rowW
  rw [cbyte_scale]
theorem FF_256 (v sc m : Nat) : FF v sc (m + 8) / 256 = FF v sc m := by
  unfold FF
  rw [Nat.div_div_eq_div_mul, Nat.pow_add, ← Nat.mul_assoc]
  rw [Nat.mul_div_mul_right _ _ (by decide)]
theorem FF_mono {v v' : Nat} (h : v ≤ v') (sc m : Nat) : FF v sc m ≤ FF v' sc m := Nat.div_le_div_right (Nat.mul_le_mul_right _ h)
theorem FF_add {v s sc m : Nat} (h : 16 + sc ≤ m) : FF (v + s) sc m = FF v sc m + s * 2 ^ (m - (16 + sc)) := by
  rw [FF_hi h, FF_hi h, Nat.add_mul]
/-- the row while s is added: bytes below j aren't reached yet -/
def rowM (l : List Nat) (v s sc j : Nat) : Nat → Int32 := fun k => if k < l.length then nI (l.getD k 0) else if k - l.length < j then nI (cbyte v sc (k - l.length)) else nI (cbyte (v + s) sc (k - l.length))
theorem rowM_start (l : List Nat) (v s sc : Nat) : rowM l v s sc (sc / 8 + 3) = rowW l v sc := by
  funext k
  unfold rowM rowW
  split
  · rfl
  · split
    · rfl
    · rw [cbyte_hi (by omega), cbyte_hi (by omega)]
theorem rowM_0 (l : List Nat) (v s sc : Nat) : rowM l v s sc 0 = rowW l (v + s) sc := by
  funext k
  unfold rowM rowW
  split
  · rfl
  · rw [if_neg (by omega)]
theorem rowM_at (l : List Nat) (v s sc j : Nat) : rowM l v s sc (j + 1) (l.length + j) = nI (cbyte v sc j) := by
  unfold rowM
  rw [if_neg (by omega), if_pos (by omega), show l.length + j - l.length = j by omega]
theorem rowM_up (l : List Nat) (v s sc j : Nat) : upd (rowM l v s sc (j + 1)) (l.length + j) (nI (cbyte (v + s) sc j)) = rowM l v s sc j := by
  funext k
  unfold upd rowM
  by_cases e : k = l.length + j
  · subst e
    rw [if_pos rfl, if_neg (by omega), if_neg (by omega), show l.length + j - l.length = j by omega]
  · rw [if_neg e]
    by_cases h : k < l.length
    · rw [if_pos h, if_pos h]
    · rw [if_neg h, if_neg h]
      by_cases h2 : k - l.length < j
      · rw [if_pos h2, if_pos (by omega)]
      · rw [if_neg h2, if_neg (by omega)]
/-- nothing is carried on: the bytes ahead stay -/
theorem rowM_stop {l : List Nat} {v s sc j : Nat} (h : FF (v + s) sc (8 * j) = FF v sc (8 * j)) : rowM l v s sc j = rowM l v s sc 0 := by
  have key : ∀ i d, i + d = j → FF (v + s) sc (8 * i) = FF v sc (8 * i) := by
    intro i d
    induction d generalizing i with
    | zero => intro e; rw [Nat.add_zero] at e; subst e; exact h
    | succ d ih =>
      intro e
      have h1 := ih (i + 1) (by omega)
      rw [show 8 * (i + 1) = 8 * i + 8 by omega] at h1
      rw [← FF_256, ← FF_256 v, h1]
  funext k
  unfold rowM
  split
  · rfl
  · rw [if_neg (show ¬ k - l.length < 0 by omega)]
    split
    · rename_i h2
      congr 1
      unfold cbyte
      have h3 := key (k - l.length + 1) (j - (k - l.length + 1)) (by omega)
      rw [show 8 * (k - l.length + 1) = 8 * (k - l.length) + 8 by omega] at h3
      rw [h3]
    · rfl
end
section
/-! bytes of the document: LayeredPage$Octets; Arrays.fill -/
abbrev rmD (d : Nat) : Room := { frames := d, cells := 0, slots := 0, locals := 49 * d }
abbrev rmA (d c s : Nat) : Room := { frames := d, cells := c, slots := s, locals := 49 * d }
theorem i32_nat {k : Int32} {n : Nat} (h0 : ¬ k < 0) (h1 : ¬ nI n ≤ k) (hn : n < 2 ^ 31) : ∃ j : Nat, j < n ∧ k = nI j := by
  rcases pk_ix k hn with h | h | h
  · exact absurd h h0
  · exact absurd h h1
  · exact h
theorem i32_natle {k : Int32} {n : Nat} (h0 : ¬ k < 0) (h1 : ¬ nI n < k) (hn : n < 2 ^ 31 - 1) : ∃ j : Nat, j ≤ n ∧ k = nI j := by
  obtain ⟨j, hj, rfl⟩ := nI_of h0
  refine ⟨j, ?_, rfl⟩
  exact Nat.not_lt.mp (fun q => h1 ((nI_ltI (by omega) hj).mpr q))
theorem min1200 {n : Nat} (h : n ≤ 1200) : (if nI n < nI 1200 then nI n else nI 1200) = nI n := by
  by_cases e : n < 1200
  · rw [if_pos (nI_lt e (by decide))]
  · have e2 : n = 1200 := by omega
    subst e2
    rw [if_neg (nI_nlt (Nat.le_refl _) (by decide))]
def octAt (l : List Nat) (k : Int32) : Int32 := if 0 ≤ k ∧ k < nI l.length then nI (l.getD k.toNatClampNeg 0) else -1
theorem octAt_in {l : List Nat} {j : Nat} (hj : j < l.length) (hl : l.length ≤ 1200) : octAt l (nI j) = nI (l.getD j 0) := by
  unfold octAt
  rw [if_pos ⟨nI_pos' (by omega), nI_lt hj (by omega)⟩, nI_clamp (by omega)]
theorem octAt_lo {l : List Nat} {k : Int32} (h : k < 0) : octAt l k = -1 := by
  unfold octAt
  rw [if_neg (fun q => Int32.not_lt.mpr q.1 h)]
theorem octAt_hi {l : List Nat} {k : Int32} (h : nI l.length ≤ k) : octAt l k = -1 := by
  unfold octAt
  rw [if_neg (fun q => Int32.not_lt.mpr h q.2)]
def wOct (g : Gl) (a r : Nat) (f : Nat → Int32) (c : Int32) : va_W := [(a, .inr (5, [.ref r, .int c])), (r, .inl (g.2.1, 1200, .inl f))]
set_option maxRecDepth 100000 in
set_option maxHeartbeats 4000000 in
/-- Arrays.fill -/
theorem c_fill (l : Launch) (g : Gl) (r N : Nat) (f : Nat → Int32) (x : Int32) (hN : N < 2 ^ 31) : Ct l g y_Ar_fill b_Ar_fill 4 none (rmD 0) [.ref r, .int x] ([(r, .inl (g.2.1, N, .inl f))]) (fun v w => v = none ∧ w = [(r, .inl (g.2.1, N, .inl (fun _ => x)))]) := by
  refine ct_of [some (.ref r), some (.int x), none, none] (by decide) (Nat.le_of_ble_eq_true rfl) rfl ?_
  intro X C E
  refine sw_iconst (pc := 0) C (nI 0) d_Ar_fill_0 (by decide) ?_
  refine sw_istore_n (pc := 1) C d_Ar_fill_1 rfl (by decide) rfl ?_
  refine sw_aload_n (pc := 2) C d_Ar_fill_2 rfl rfl ?_
  refine sw_alenI (pc := 3) C 0 rfl d_Ar_fill_3 ?_
  refine sw_istore_n (pc := 4) C d_Ar_fill_4 rfl (by decide) rfl ?_
  have key : ∀ (n i : Nat) (f : Nat → Int32), i + n = N → (∀ j, j < i → f j = x) → SW X g 4 0 0 [(r, .inl (g.2.1, N, .inl f))] 5 [some (.ref r), some (.int x), some (.int (nI i)), some (.int (nI N))] [] := by
    intro n
    induction n with
    | zero =>
      intro i f hi hf
      refine sw_iload_n (pc := 5) C d_Ar_fill_5 rfl rfl ?_
      refine sw_iload_n (pc := 6) C d_Ar_fill_6 rfl rfl ?_
      refine sw_icmp_geN (pc := 7) C 20 (by omega) (by omega) d_Ar_fill_7 (by decide) (fun h1 => ?_) (fun h1 => ?_)
      · skip
        refine sw_arr (f' := fun _ => x) 0 rfl (fun j hj => hf j (by omega)) ?_
        exact sw_vret (pc := 20) C E rfl (Nat.le_of_ble_eq_true rfl) (Nat.le_of_ble_eq_true rfl) d_Ar_fill_20 ⟨rfl, rfl⟩
      omega
    | succ n ih =>
      intro i f hi hf
      refine sw_iload_n (pc := 5) C d_Ar_fill_5 rfl rfl ?_
      refine sw_iload_n (pc := 6) C d_Ar_fill_6 rfl rfl ?_
      refine sw_icmp_geN (pc := 7) C 20 (by omega) (by omega) d_Ar_fill_7 (by decide) (fun h1 => ?_) (fun h1 => ?_)
      · skip
        omega
      refine sw_aload_n (pc := 10) C d_Ar_fill_10 rfl rfl ?_
      refine sw_iload_n (pc := 11) C d_Ar_fill_11 rfl rfl ?_
      refine sw_iload_n (pc := 12) C d_Ar_fill_12 rfl rfl ?_
      refine sw_iastN (pc := 13) C 0 i rfl rfl (by omega) hN d_Ar_fill_13 ?_
      refine sw_iincN (pc := 14) C 1 d_Ar_fill_14 rfl (by decide) (by decide) rfl ?_
      refine sw_goto (pc := 17) C 5 d_Ar_fill_17 (by decide) ?_
      refine ih (i + 1) (upd f i x) (by omega) (fun j hj => ?_)
      unfold upd
      by_cases e : j = i
      · rw [if_pos e]
      · rw [if_neg e]; exact hf j (by omega)
  exact key N 0 f (by omega) (fun j hj => by omega)
set_option maxRecDepth 100000 in
set_option maxHeartbeats 4000000 in
/-- Octets.at -/
theorem c_Oct_at (l : Launch) (g : Gl) (a r : Nat) (l0 : List Nat) (hl : l0.length ≤ 1200) (k : Int32) : Ct l g y_Oct_at b_Oct_at 2 (some .int) (rmD 0) [.ref a, .int k] (wOct g a r (rowOf l0) (nI l0.length)) (fun v w => v = some (.int (octAt l0 k)) ∧ w = wOct g a r (rowOf l0) (nI l0.length)) := by
  refine ct_of [some (.ref a), some (.int k)] (by decide) (Nat.le_of_ble_eq_true rfl) rfl ?_
  intro X C E
  refine sw_iload_n (pc := 0) C d_Oct_at_0 rfl rfl ?_
  refine sw_if_lt (pc := 1) C 21 d_Oct_at_1 (by decide) (fun h1 => ?_) (fun h1 => ?_)
  · skip
    refine sw_iconst (pc := 21) C (-1) d_Oct_at_21 (by decide) ?_
    exact sw_iret (pc := 22) C E rfl (Nat.le_of_ble_eq_true rfl) (Nat.le_of_ble_eq_true rfl) d_Oct_at_22 ⟨by rw [octAt_lo h1], rfl⟩
  refine sw_iload_n (pc := 4) C d_Oct_at_4 rfl rfl ?_
  refine sw_aload_n (pc := 5) C d_Oct_at_5 rfl rfl ?_
  refine sw_get (pc := 6) C inOct 0 rfl rfl 1 (by decide) t_32 rfl rfl d_Oct_at_6 ?_
  refine sw_topi (z := nI l0.length) rfl ?_
  refine sw_icmp_ge (pc := 9) C 21 d_Oct_at_9 (by decide) (fun h2 => ?_) (fun h2 => ?_)
  · skip
    refine sw_iconst (pc := 21) C (-1) d_Oct_at_21 (by decide) ?_
    exact sw_iret (pc := 22) C E rfl (Nat.le_of_ble_eq_true rfl) (Nat.le_of_ble_eq_true rfl) d_Oct_at_22 ⟨by rw [octAt_hi h2], rfl⟩
  obtain ⟨j, hj, rfl⟩ := i32_nat h1 h2 (by omega)
  refine sw_aload_n (pc := 12) C d_Oct_at_12 rfl rfl ?_
  refine sw_get (pc := 13) C inOct 0 rfl rfl 0 (by decide) t_29 rfl rfl d_Oct_at_13 ?_
  refine sw_iload_n (pc := 16) C d_Oct_at_16 rfl rfl ?_
  refine sw_ialdN (pc := 17) C 1 j rfl rfl (by omega) (by decide) d_Oct_at_17 ?_
  refine sw_topi (z := nI (l0.getD j 0)) rfl ?_
  refine sw_goto (pc := 18) C 22 d_Oct_at_18 (by decide) ?_
  exact sw_iret (pc := 22) C E rfl (Nat.le_of_ble_eq_true rfl) (Nat.le_of_ble_eq_true rfl) d_Oct_at_22 ⟨by rw [octAt_in hj hl], rfl⟩
def setL (l : List Nat) (k v : Nat) : List Nat := if k < l.length then l.set k v else l ++ [v]
theorem setL_row {l : List Nat} {k v : Nat} (hk : k ≤ l.length) : upd (rowOf l) k (nI v) = rowOf (setL l k v) := by
  unfold setL
  split
  · rename_i h
    exact rowOf_set v h
  · have e : k = l.length := by omega
    subst e
    exact rowOf_app l v
theorem setL_len {l : List Nat} {k v : Nat} (hk : k ≤ l.length) : (setL l k v).length = if l.length < k + 1 then k + 1 else l.length := by
  unfold setL
  split
  · rename_i h
    rw [List.length_set, if_neg (by omega)]
  · rw [List.length_append, if_pos (by omega)]
    simp
    omega
set_option maxRecDepth 100000 in
set_option maxHeartbeats 4000000 in
/-- Octets.set -/
theorem c_Oct_set (l : Launch) (g : Gl) (a r : Nat) (l0 : List Nat) (hl : l0.length ≤ 1200) (k v : Nat) (hk : k ≤ l0.length) (hk2 : k < 1200) : Ct l g y_Oct_set b_Oct_set 3 none (rmD 1) [.ref a, .int (nI k), .int (nI v)] (wOct g a r (rowOf l0) (nI l0.length)) (fun u w => u = none ∧ w = wOct g a r (rowOf (setL l0 k v)) (nI (setL l0 k v).length)) := by
  refine ct_of [some (.ref a), some (.int (nI k)), some (.int (nI v))] (by decide) (Nat.le_of_ble_eq_true rfl) rfl ?_
  intro X C E
  refine sw_iload_n (pc := 0) C d_Oct_set_0 rfl rfl ?_
  refine sw_if_ltN (pc := 1) C (by omega) 40 d_Oct_set_1 (by decide) ?_
  refine sw_iload_n (pc := 4) C d_Oct_set_4 rfl rfl ?_
  refine sw_aload_n (pc := 5) C d_Oct_set_5 rfl rfl ?_
  refine sw_get (pc := 6) C inOct 0 rfl rfl 1 (by decide) t_32 rfl rfl d_Oct_set_6 ?_
  refine sw_topi (z := nI l0.length) rfl ?_
  refine sw_icmp_gtN (pc := 9) C 40 (by omega) (by omega) d_Oct_set_9 (by decide) (fun h2 => ?_) (fun h2 => ?_)
  · skip
    omega
  refine sw_iload_n (pc := 12) C d_Oct_set_12 rfl rfl ?_
  refine sw_sipush (pc := 13) C (nI 1200) d_Oct_set_13 (by decide) ?_
  refine sw_icmp_geN (pc := 16) C 40 (by omega) (by omega) d_Oct_set_16 (by decide) (fun h3 => ?_) (fun h3 => ?_)
  · skip
    omega
  refine sw_aload_n (pc := 19) C d_Oct_set_19 rfl rfl ?_
  refine sw_get (pc := 20) C inOct 0 rfl rfl 0 (by decide) t_29 rfl rfl d_Oct_set_20 ?_
  refine sw_iload_n (pc := 23) C d_Oct_set_23 rfl rfl ?_
  refine sw_iload_n (pc := 24) C d_Oct_set_24 rfl rfl ?_
  refine sw_iastN (pc := 25) C 1 k rfl rfl (by omega) (by decide) d_Oct_set_25 ?_
  refine sw_aload_n (pc := 26) C d_Oct_set_26 rfl rfl ?_
  refine sw_aload_n (pc := 27) C d_Oct_set_27 rfl rfl ?_
  refine sw_get (pc := 28) C inOct 0 rfl rfl 1 (by decide) t_32 rfl rfl d_Oct_set_28 ?_
  refine sw_topi (z := nI l0.length) rfl ?_
  refine sw_iload_n (pc := 31) C d_Oct_set_31 rfl rfl ?_
  refine sw_iconst (pc := 32) C (nI 1) d_Oct_set_32 (by decide) ?_
  refine sw_iadd (pc := 33) C d_Oct_set_33 ?_
  refine sw_topi (z := nI (k + 1)) (nI_add _ _) ?_
  refine sw_mmax (pc := 34) C t_330 t_331 t_13 t_332 (Nat.le_of_ble_eq_true rfl) (Nat.le_of_ble_eq_true rfl) (Nat.le_of_ble_eq_true rfl) (Nat.le_of_ble_eq_true rfl) d_Oct_set_34 ?_
  refine sw_topi (z := nI (setL l0 k v).length) (by rw [setL_len hk]; by_cases e : l0.length < k + 1 <;> simp [e, nI_ltI (show l0.length < 2 ^ 31 by omega) (show k + 1 < 2 ^ 31 by omega)]) ?_
  refine sw_put (pc := 37) C inOct 0 rfl rfl 1 (by decide) tyOct okOct nmOct t_32 rfl rfl (ty := .int) (by decide +kernel) rfl rfl (Nat.le_of_ble_eq_true rfl) d_Oct_set_37 ?_
  refine sw_ws (ws' := wOct g a r (rowOf (setL l0 k v)) (nI (setL l0 k v).length)) (by rw [← setL_row hk]; rfl) ?_
  exact sw_vret (pc := 40) C E rfl (Nat.le_of_ble_eq_true rfl) (Nat.le_of_ble_eq_true rfl) d_Oct_set_40 ⟨rfl, rfl⟩
set_option maxRecDepth 100000 in
set_option maxHeartbeats 4000000 in
/-- Octets.append -/
theorem c_Oct_append (l : Launch) (g : Gl) (a r : Nat) (l0 : List Nat) (hl : l0.length < 1200) (v : Nat) : Ct l g y_Oct_append b_Oct_append 2 none (rmD 2) [.ref a, .int (nI v)] (wOct g a r (rowOf l0) (nI l0.length)) (fun u w => u = none ∧ w = wOct g a r (rowOf (l0 ++ [v])) (nI (l0 ++ [v]).length)) := by
  refine ct_of [some (.ref a), some (.int (nI v))] (by decide) (Nat.le_of_ble_eq_true rfl) rfl ?_
  intro X C E
  refine sw_aload_n (pc := 0) C d_Oct_append_0 rfl rfl ?_
  refine sw_aload_n (pc := 1) C d_Oct_append_1 rfl rfl ?_
  refine sw_get (pc := 2) C inOct 0 rfl rfl 1 (by decide) t_32 rfl rfl d_Oct_append_2 ?_
  refine sw_topi (z := nI l0.length) rfl ?_
  refine sw_iload_n (pc := 5) C d_Oct_append_5 rfl rfl ?_
  refine sw_callVP (pc := 6) C (c_Oct_set l g a r l0 (by omega) l0.length v (Nat.le_refl _) (by omega)) sv_Oct_set t_326 rfl rfl rfl [0, 1] rfl rfl rfl rfl (Nat.le_of_ble_eq_true rfl) (Nat.le_of_ble_eq_true rfl) (Nat.le_of_ble_eq_true rfl) (Nat.le_of_ble_eq_true rfl) (Nat.le_of_ble_eq_true rfl) d_Oct_append_6 (fun v w1 hp => ?_)
  obtain ⟨rfl, rfl⟩ := hp
  refine ⟨rfl, ?_⟩
  have e : setL l0 l0.length v = l0 ++ [v] := by unfold setL; rw [if_neg (by omega)]
  rw [e]
  exact sw_vret (pc := 9) C E rfl (Nat.le_of_ble_eq_true rfl) (Nat.le_of_ble_eq_true rfl) d_Oct_append_9 ⟨rfl, rfl⟩
set_option maxRecDepth 100000 in
set_option maxHeartbeats 4000000 in
/-- Octets.keep -/
theorem c_Oct_keep (l : Launch) (g : Gl) (a r : Nat) (l0 : List Nat) (hl : l0.length ≤ 1200) (n : Nat) (hn : n ≤ l0.length) : Ct l g y_Oct_keep b_Oct_keep 3 none (rmD 0) [.ref a, .int (nI n)] (wOct g a r (rowOf l0) (nI l0.length)) (fun u w => u = none ∧ w = wOct g a r (rowOf (l0.take n)) (nI (l0.take n).length)) := by
  refine ct_of [some (.ref a), some (.int (nI n)), none] (by decide) (Nat.le_of_ble_eq_true rfl) rfl ?_
  intro X C E
  refine sw_iload_n (pc := 0) C d_Oct_keep_0 rfl rfl ?_
  refine sw_if_ltN (pc := 1) C (by omega) 40 d_Oct_keep_1 (by decide) ?_
  refine sw_iload_n (pc := 4) C d_Oct_keep_4 rfl rfl ?_
  refine sw_aload_n (pc := 5) C d_Oct_keep_5 rfl rfl ?_
  refine sw_get (pc := 6) C inOct 0 rfl rfl 1 (by decide) t_32 rfl rfl d_Oct_keep_6 ?_
  refine sw_topi (z := nI l0.length) rfl ?_
  refine sw_icmp_gtN (pc := 9) C 40 (by omega) (by omega) d_Oct_keep_9 (by decide) (fun h2 => ?_) (fun h2 => ?_)
  · skip
    omega
  refine sw_iload_n (pc := 12) C d_Oct_keep_12 rfl rfl ?_
  refine sw_istore_n (pc := 13) C d_Oct_keep_13 rfl (by decide) rfl ?_
  have key : ∀ (d i : Nat) (f : Nat → Int32), i + d = l0.length → n ≤ i → (∀ j, f j = if n ≤ j ∧ j < i then 0 else rowOf l0 j) → SW X g 3 0 0 (wOct g a r f (nI l0.length)) 14 [some (.ref a), some (.int (nI n)), some (.int (nI i))] [] := by
    intro d
    induction d with
    | zero =>
      intro i f hi hni hf
      refine sw_iload_n (pc := 14) C d_Oct_keep_14 rfl rfl ?_
      refine sw_aload_n (pc := 15) C d_Oct_keep_15 rfl rfl ?_
      refine sw_get (pc := 16) C inOct 0 rfl rfl 1 (by decide) t_32 rfl rfl d_Oct_keep_16 ?_
      refine sw_topi (z := nI l0.length) rfl ?_
      refine sw_icmp_geN (pc := 19) C 35 (by omega) (by omega) d_Oct_keep_19 (by decide) (fun h3 => ?_) (fun h3 => ?_)
      · skip
        refine sw_aload_n (pc := 35) C d_Oct_keep_35 rfl rfl ?_
        refine sw_iload_n (pc := 36) C d_Oct_keep_36 rfl rfl ?_
        refine sw_put (pc := 37) C inOct 0 rfl rfl 1 (by decide) tyOct okOct nmOct t_32 rfl rfl (ty := .int) (by decide +kernel) rfl rfl (Nat.le_of_ble_eq_true rfl) d_Oct_keep_37 ?_
        have e : f = rowOf (l0.take n) := by
          funext j
          rw [hf j]
          unfold rowOf
          by_cases h4 : n ≤ j
          · rw [getD_ge (l := l0.take n) (by simp; omega)]
            by_cases h5 : j < i
            · rw [if_pos ⟨h4, h5⟩]; rfl
            · rw [if_neg (fun q => h5 q.2), getD_ge (by omega)]
          · rw [if_neg (fun q => h4 q.1), List.getD_eq_getElem?_getD, List.getD_eq_getElem?_getD, List.getElem?_take, if_pos (by omega)]
        have e2 : (l0.take n).length = n := by simp; omega
        subst e
        exact sw_vret (pc := 40) C E rfl (Nat.le_of_ble_eq_true rfl) (Nat.le_of_ble_eq_true rfl) d_Oct_keep_40 ⟨rfl, by rw [e2]; rfl⟩
      omega
    | succ d ih =>
      intro i f hi hni hf
      refine sw_iload_n (pc := 14) C d_Oct_keep_14 rfl rfl ?_
      refine sw_aload_n (pc := 15) C d_Oct_keep_15 rfl rfl ?_
      refine sw_get (pc := 16) C inOct 0 rfl rfl 1 (by decide) t_32 rfl rfl d_Oct_keep_16 ?_
      refine sw_topi (z := nI l0.length) rfl ?_
      refine sw_icmp_geN (pc := 19) C 35 (by omega) (by omega) d_Oct_keep_19 (by decide) (fun h3 => ?_) (fun h3 => ?_)
      · skip
        omega
      refine sw_aload_n (pc := 22) C d_Oct_keep_22 rfl rfl ?_
      refine sw_get (pc := 23) C inOct 0 rfl rfl 0 (by decide) t_29 rfl rfl d_Oct_keep_23 ?_
      refine sw_iload_n (pc := 26) C d_Oct_keep_26 rfl rfl ?_
      refine sw_iconst (pc := 27) C (nI 0) d_Oct_keep_27 (by decide) ?_
      refine sw_iastN (pc := 28) C 1 i rfl rfl (by omega) (by decide) d_Oct_keep_28 ?_
      refine sw_iincN (pc := 29) C 1 d_Oct_keep_29 rfl (by decide) (by decide) rfl ?_
      refine sw_goto (pc := 32) C 14 d_Oct_keep_32 (by decide) ?_
      refine ih (i + 1) (upd f i (nI 0)) (by omega) (by omega) (fun j => ?_)
      unfold upd
      by_cases e : j = i
      · rw [if_pos e, if_pos (by omega)]; rfl
      · rw [if_neg e, hf j]
        by_cases h5 : n ≤ j ∧ j < i
        · rw [if_pos h5, if_pos (by omega)]
        · rw [if_neg h5, if_neg (by omega)]
  exact key (l0.length - n) n (rowOf l0) (by omega) (Nat.le_refl _) (fun j => by rw [if_neg (by omega)])
set_option maxRecDepth 100000 in
set_option maxHeartbeats 4000000 in
/-- Octets.take -/
theorem c_Oct_take (l : Launch) (g : Gl) (a r : Nat) (f : Nat → Int32) (c n : Nat) (hc : c + n ≤ 1200) : Ct l g y_Oct_take b_Oct_take 2 none (rmD 1) [.ref a, .int (nI n)] (wOct g a r f (nI c)) (fun u w => u = none ∧ w = wOct g a r f (nI (c + n))) := by
  refine ct_of [some (.ref a), some (.int (nI n))] (by decide) (Nat.le_of_ble_eq_true rfl) rfl ?_
  intro X C E
  refine sw_aload_n (pc := 0) C d_Oct_take_0 rfl rfl ?_
  refine sw_sipush (pc := 1) C (nI 1200) d_Oct_take_1 (by decide) ?_
  refine sw_aload_n (pc := 4) C d_Oct_take_4 rfl rfl ?_
  refine sw_get (pc := 5) C inOct 0 rfl rfl 1 (by decide) t_32 rfl rfl d_Oct_take_5 ?_
  refine sw_topi (z := nI c) rfl ?_
  refine sw_iload_n (pc := 8) C d_Oct_take_8 rfl rfl ?_
  refine sw_iadd (pc := 9) C d_Oct_take_9 ?_
  refine sw_topi (z := nI (c + n)) (nI_add _ _) ?_
  refine sw_mmin (pc := 10) C t_405 t_406 t_13 t_407 (Nat.le_of_ble_eq_true rfl) (Nat.le_of_ble_eq_true rfl) (Nat.le_of_ble_eq_true rfl) (Nat.le_of_ble_eq_true rfl) d_Oct_take_10 ?_
  refine sw_topi (z := nI (c + n)) (min1200 hc) ?_
  refine sw_put (pc := 13) C inOct 0 rfl rfl 1 (by decide) tyOct okOct nmOct t_32 rfl rfl (ty := .int) (by decide +kernel) rfl rfl (Nat.le_of_ble_eq_true rfl) d_Oct_take_13 ?_
  exact sw_vret (pc := 16) C E rfl (Nat.le_of_ble_eq_true rfl) (Nat.le_of_ble_eq_true rfl) d_Oct_take_16 ⟨rfl, rfl⟩
set_option maxRecDepth 100000 in
set_option maxHeartbeats 4000000 in
/-- Octets.openChunk -/
theorem c_Oct_open (l : Launch) (g : Gl) (a r : Nat) (l0 : List Nat) (hl : l0.length + 3 ≤ 1200) (v : Nat) : Ct l g y_Oct_openChunk b_Oct_openChunk 2 (some .int) (rmD 3) [.ref a, .int (nI v)] (wOct g a r (rowOf l0) (nI l0.length)) (fun u w => u = some (.int (nI (l0.length + 3))) ∧ w = wOct g a r (rowOf (l0 ++ [v, 0, 0])) (nI (l0 ++ [v, 0, 0]).length)) := by
  refine ct_of [some (.ref a), some (.int (nI v))] (by decide) (Nat.le_of_ble_eq_true rfl) rfl ?_
  intro X C E
  refine sw_aload_n (pc := 0) C d_Oct_openChunk_0 rfl rfl ?_
  refine sw_iload_n (pc := 1) C d_Oct_openChunk_1 rfl rfl ?_
  refine sw_callVP (pc := 2) C (c_Oct_append l g a r l0 (by omega) v) sv_Oct_append t_341 rfl rfl rfl [0, 1] rfl rfl rfl rfl (Nat.le_of_ble_eq_true rfl) (Nat.le_of_ble_eq_true rfl) (Nat.le_of_ble_eq_true rfl) (Nat.le_of_ble_eq_true rfl) (Nat.le_of_ble_eq_true rfl) d_Oct_openChunk_2 (fun v w1 hp => ?_)
  obtain ⟨rfl, rfl⟩ := hp
  refine ⟨rfl, ?_⟩
  refine sw_ws (ws' := wOct g a r (rowOf (l0 ++ [v])) (nI (l0 ++ [v]).length)) rfl ?_
  refine sw_aload_n (pc := 5) C d_Oct_openChunk_5 rfl rfl ?_
  refine sw_iconst (pc := 6) C (nI 0) d_Oct_openChunk_6 (by decide) ?_
  refine sw_callVP (pc := 7) C (c_Oct_append l g a r (l0 ++ [v]) (by simp; omega) 0) sv_Oct_append t_341 rfl rfl rfl [0, 1] rfl rfl rfl rfl (Nat.le_of_ble_eq_true rfl) (Nat.le_of_ble_eq_true rfl) (Nat.le_of_ble_eq_true rfl) (Nat.le_of_ble_eq_true rfl) (Nat.le_of_ble_eq_true rfl) d_Oct_openChunk_7 (fun v w1 hp => ?_)
  obtain ⟨rfl, rfl⟩ := hp
  refine ⟨rfl, ?_⟩
  refine sw_ws (ws' := wOct g a r (rowOf (l0 ++ [v] ++ [0])) (nI (l0 ++ [v] ++ [0]).length)) rfl ?_
  refine sw_aload_n (pc := 10) C d_Oct_openChunk_10 rfl rfl ?_
  refine sw_iconst (pc := 11) C (nI 0) d_Oct_openChunk_11 (by decide) ?_
  refine sw_callVP (pc := 12) C (c_Oct_append l g a r (l0 ++ [v] ++ [0]) (by simp; omega) 0) sv_Oct_append t_341 rfl rfl rfl [0, 1] rfl rfl rfl rfl (Nat.le_of_ble_eq_true rfl) (Nat.le_of_ble_eq_true rfl) (Nat.le_of_ble_eq_true rfl) (Nat.le_of_ble_eq_true rfl) (Nat.le_of_ble_eq_true rfl) d_Oct_openChunk_12 (fun v w1 hp => ?_)
  obtain ⟨rfl, rfl⟩ := hp
  refine ⟨rfl, ?_⟩
  refine sw_ws (ws' := wOct g a r (rowOf (l0 ++ [v] ++ [0] ++ [0])) (nI (l0 ++ [v] ++ [0] ++ [0]).length)) rfl ?_
  have e : l0 ++ [v] ++ [0] ++ [0] = l0 ++ [v, 0, 0] := by simp
  rw [e]
  refine sw_aload_n (pc := 15) C d_Oct_openChunk_15 rfl rfl ?_
  refine sw_get (pc := 16) C inOct 0 rfl rfl 1 (by decide) t_32 rfl rfl d_Oct_openChunk_16 ?_
  refine sw_topi (z := nI ((l0 ++ [v, 0, 0]).length)) rfl ?_
  refine sw_topi (z := nI (l0.length + 3)) (by simp) ?_
  exact sw_iret (pc := 19) C E rfl (Nat.le_of_ble_eq_true rfl) (Nat.le_of_ble_eq_true rfl) d_Oct_openChunk_19 ⟨rfl, rfl⟩
def clsL (l : List Nat) (p : Nat) : List Nat := (l.set (p - 2) ((l.length - p) / 256)).set (p - 1) ((l.length - p) % 256)
set_option maxRecDepth 100000 in
set_option maxHeartbeats 4000000 in
/-- Octets.closeChunk -/
theorem c_Oct_close (l : Launch) (g : Gl) (a r : Nat) (l0 : List Nat) (hl : l0.length ≤ 1200) (p : Nat) (h2 : 2 ≤ p) (hp : p ≤ l0.length) : Ct l g y_Oct_closeChunk b_Oct_closeChunk 3 none (rmD 2) [.ref a, .int (nI p)] (wOct g a r (rowOf l0) (nI l0.length)) (fun u w => u = none ∧ w = wOct g a r (rowOf (clsL l0 p)) (nI (clsL l0 p).length)) := by
  refine ct_of [some (.ref a), some (.int (nI p)), none] (by decide) (Nat.le_of_ble_eq_true rfl) rfl ?_
  intro X C E
  refine sw_aload_n (pc := 0) C d_Oct_closeChunk_0 rfl rfl ?_
  refine sw_get (pc := 1) C inOct 0 rfl rfl 1 (by decide) t_32 rfl rfl d_Oct_closeChunk_1 ?_
  refine sw_topi (z := nI l0.length) rfl ?_
  refine sw_iload_n (pc := 4) C d_Oct_closeChunk_4 rfl rfl ?_
  refine sw_isub (pc := 5) C d_Oct_closeChunk_5 ?_
  refine sw_topi (z := nI (l0.length - p)) (pk_sub (by omega)) ?_
  refine sw_istore_n (pc := 6) C d_Oct_closeChunk_6 rfl (by decide) rfl ?_
  refine sw_aload_n (pc := 7) C d_Oct_closeChunk_7 rfl rfl ?_
  refine sw_iload_n (pc := 8) C d_Oct_closeChunk_8 rfl rfl ?_
  refine sw_iconst (pc := 9) C (nI 2) d_Oct_closeChunk_9 (by decide) ?_
  refine sw_isub (pc := 10) C d_Oct_closeChunk_10 ?_
  refine sw_topi (z := nI (p - 2)) (pk_sub (by omega)) ?_
  refine sw_iload_n (pc := 11) C d_Oct_closeChunk_11 rfl rfl ?_
  refine sw_sipush (pc := 12) C (nI 256) d_Oct_closeChunk_12 (by decide) ?_
  refine sw_idiv (pc := 15) C d_Oct_closeChunk_15 (by decide) ?_
  refine sw_topi (z := nI ((l0.length - p) / 256)) (pk_div (by omega) (by omega) (by omega)) ?_
  have e1 : setL l0 (p - 2) ((l0.length - p) / 256) = l0.set (p - 2) ((l0.length - p) / 256) := by unfold setL; rw [if_pos (by omega)]
  refine sw_callVP (pc := 16) C (c_Oct_set l g a r l0 hl (p - 2) ((l0.length - p) / 256) (by omega) (by omega)) sv_Oct_set t_326 rfl rfl rfl [0, 1] rfl rfl rfl rfl (Nat.le_of_ble_eq_true rfl) (Nat.le_of_ble_eq_true rfl) (Nat.le_of_ble_eq_true rfl) (Nat.le_of_ble_eq_true rfl) (Nat.le_of_ble_eq_true rfl) d_Oct_closeChunk_16 (fun v w1 hp => ?_)
  obtain ⟨rfl, rfl⟩ := hp
  refine ⟨rfl, ?_⟩
  rw [e1]
  refine sw_ws (ws' := wOct g a r (rowOf (l0.set (p - 2) ((l0.length - p) / 256))) (nI (l0.set (p - 2) ((l0.length - p) / 256)).length)) rfl ?_
  refine sw_aload_n (pc := 19) C d_Oct_closeChunk_19 rfl rfl ?_
  refine sw_iload_n (pc := 20) C d_Oct_closeChunk_20 rfl rfl ?_
  refine sw_iconst (pc := 21) C (nI 1) d_Oct_closeChunk_21 (by decide) ?_
  refine sw_isub (pc := 22) C d_Oct_closeChunk_22 ?_
  refine sw_topi (z := nI (p - 1)) (pk_sub (by omega)) ?_
  refine sw_iload_n (pc := 23) C d_Oct_closeChunk_23 rfl rfl ?_
  refine sw_sipush (pc := 24) C (nI 256) d_Oct_closeChunk_24 (by decide) ?_
  refine sw_irem (pc := 27) C d_Oct_closeChunk_27 (by decide) ?_
  refine sw_topi (z := nI ((l0.length - p) % 256)) (pk_rem (by omega) (by omega) (by omega)) ?_
  have e2 : setL (l0.set (p - 2) ((l0.length - p) / 256)) (p - 1) ((l0.length - p) % 256) = clsL l0 p := by unfold setL clsL; rw [if_pos (by simp; omega)]
  refine sw_callVP (pc := 28) C (c_Oct_set l g a r (l0.set (p - 2) ((l0.length - p) / 256)) (by simp; omega) (p - 1) ((l0.length - p) % 256) (by simp; omega) (by omega)) sv_Oct_set t_326 rfl rfl rfl [0, 1] rfl rfl rfl rfl (Nat.le_of_ble_eq_true rfl) (Nat.le_of_ble_eq_true rfl) (Nat.le_of_ble_eq_true rfl) (Nat.le_of_ble_eq_true rfl) (Nat.le_of_ble_eq_true rfl) d_Oct_closeChunk_28 (fun v w1 hp => ?_)
  obtain ⟨rfl, rfl⟩ := hp
  refine ⟨rfl, ?_⟩
  rw [e2]
  exact sw_vret (pc := 31) C E rfl (Nat.le_of_ble_eq_true rfl) (Nat.le_of_ble_eq_true rfl) d_Oct_closeChunk_31 ⟨rfl, rfl⟩
end
section
/-! LayeredPage$Shape -/
theorem and1 (m : Nat) : nI m &&& nI 1 = nI (m % 2) := by
  have h := pk_and (nI m) (m := nI 1) 1 rfl
  rw [h]
  congr 1
  show (BitVec.ofNat 32 m).toNat % 2 ^ 1 = m % 2
  rw [BitVec.toNat_ofNat]
  omega
theorem ti0 {x : Nat} (h : x < 2 ^ 30) : (nI x).toInt = (x : Int) := nI_toInt (by omega)
theorem ti1 {x : Nat} (h : x < 2 ^ 30) : (nI x - nI 1).toInt = (x : Int) - 1 := by
  have := pk_sub_toInt (a := x) (b := 1) h (by decide)
  simpa using this
def wSh (a : Nat) (b : Int64) (w h bs : Int32) : va_W := [(a, .inr (7, [.long b, .int w, .int h, .int bs]))]
theorem sb_xlo {n w h : Nat} {x y : Int32} (e : x < 0) : sb n w h x.toInt y.toInt = 0 := by
  have := Int32.lt_iff_toInt_lt.mp e
  unfold sb
  rw [if_neg]
  simp at this
  omega
theorem sb_xhi {n w h : Nat} {x y : Int32} (hw : w < 2 ^ 31) (e : nI w ≤ x) : sb n w h x.toInt y.toInt = 0 := by
  have := Int32.le_iff_toInt_le.mp e
  rw [nI_toInt hw] at this
  unfold sb
  rw [if_neg]
  omega
theorem sb_ylo {n w h : Nat} {x y : Int32} (e : y < 0) : sb n w h x.toInt y.toInt = 0 := by
  have := Int32.lt_iff_toInt_lt.mp e
  unfold sb
  rw [if_neg]
  simp at this
  omega
theorem sb_yhi {n w h : Nat} {x y : Int32} (hw : h < 2 ^ 31) (e : nI h ≤ y) : sb n w h x.toInt y.toInt = 0 := by
  have := Int32.le_iff_toInt_le.mp e
  rw [nI_toInt hw] at this
  unfold sb
  rw [if_neg]
  omega
theorem sb_in {n w h x y : Nat} (hx : x < w) (hy : y < h) : sb n w h x y = n / 2 ^ (8 * y + x) % 2 := by
  unfold sb
  rw [if_pos (by omega)]
  simp
set_option maxRecDepth 100000 in
set_option maxHeartbeats 4000000 in
/-- Shape.bitAt -/
theorem c_bitAt (l : Launch) (g : Gl) (a n w h : Nat) (bs : Int32) (hn : n < 2 ^ 64) (hw : w ≤ 8) (hh : h ≤ 8) (x y : Int32) : Ct l g y_Sh_bitAt b_Sh_bitAt 3 (some .int) (rmD 0) [.ref a, .int x, .int y] (wSh a (lN n) (nI w) (nI h) bs) (fun v u => v = some (.int (nI (sb n w h x.toInt y.toInt))) ∧ u = wSh a (lN n) (nI w) (nI h) bs) := by
  refine ct_of [some (.ref a), some (.int x), some (.int y)] (by decide) (Nat.le_of_ble_eq_true rfl) rfl ?_
  intro X C E
  refine sw_iload_n (pc := 0) C d_Sh_bitAt_0 rfl rfl ?_
  refine sw_if_lt (pc := 1) C 24 d_Sh_bitAt_1 (by decide) (fun h1 => ?_) (fun h1 => ?_)
  · skip
    refine sw_iconst (pc := 24) C (nI 0) d_Sh_bitAt_24 (by decide) ?_
    exact sw_iret (pc := 25) C E rfl (Nat.le_of_ble_eq_true rfl) (Nat.le_of_ble_eq_true rfl) d_Sh_bitAt_25 ⟨by rw [sb_xlo h1], rfl⟩
  refine sw_iload_n (pc := 4) C d_Sh_bitAt_4 rfl rfl ?_
  refine sw_aload_n (pc := 5) C d_Sh_bitAt_5 rfl rfl ?_
  refine sw_get (pc := 6) C inSh 0 rfl rfl 1 (by decide) t_168 rfl rfl d_Sh_bitAt_6 ?_
  refine sw_topi (z := nI w) rfl ?_
  refine sw_icmp_ge (pc := 9) C 24 d_Sh_bitAt_9 (by decide) (fun h2 => ?_) (fun h2 => ?_)
  · skip
    refine sw_iconst (pc := 24) C (nI 0) d_Sh_bitAt_24 (by decide) ?_
    exact sw_iret (pc := 25) C E rfl (Nat.le_of_ble_eq_true rfl) (Nat.le_of_ble_eq_true rfl) d_Sh_bitAt_25 ⟨by rw [sb_xhi (by omega) h2], rfl⟩
  refine sw_iload_n (pc := 12) C d_Sh_bitAt_12 rfl rfl ?_
  refine sw_if_lt (pc := 13) C 24 d_Sh_bitAt_13 (by decide) (fun h3 => ?_) (fun h3 => ?_)
  · skip
    refine sw_iconst (pc := 24) C (nI 0) d_Sh_bitAt_24 (by decide) ?_
    exact sw_iret (pc := 25) C E rfl (Nat.le_of_ble_eq_true rfl) (Nat.le_of_ble_eq_true rfl) d_Sh_bitAt_25 ⟨by rw [sb_ylo h3], rfl⟩
  refine sw_iload_n (pc := 16) C d_Sh_bitAt_16 rfl rfl ?_
  refine sw_aload_n (pc := 17) C d_Sh_bitAt_17 rfl rfl ?_
  refine sw_get (pc := 18) C inSh 0 rfl rfl 2 (by decide) t_171 rfl rfl d_Sh_bitAt_18 ?_
  refine sw_topi (z := nI h) rfl ?_
  refine sw_icmp_lt (pc := 21) C 26 d_Sh_bitAt_21 (by decide) (fun h4 => ?_) (fun h4 => ?_)
  · skip
    obtain ⟨i, hi, rfl⟩ := i32_nat h1 h2 (by omega)
    obtain ⟨j, hj, rfl⟩ := i32_nat h3 (fun e => Int32.not_lt.mpr e h4) (by omega)
    refine sw_aload_n (pc := 26) C d_Sh_bitAt_26 rfl rfl ?_
    refine sw_get (pc := 27) C inSh 0 rfl rfl 0 (by decide) t_165 rfl rfl d_Sh_bitAt_27 ?_
    refine sw_topl (z := lN n) rfl ?_
    refine sw_bipush (pc := 30) C (nI 8) d_Sh_bitAt_30 (by decide) ?_
    refine sw_iload_n (pc := 32) C d_Sh_bitAt_32 rfl rfl ?_
    refine sw_imul (pc := 33) C d_Sh_bitAt_33 ?_
    refine sw_topi (z := nI (8 * j)) (pk_mul _ _) ?_
    refine sw_iload_n (pc := 34) C d_Sh_bitAt_34 rfl rfl ?_
    refine sw_iadd (pc := 35) C d_Sh_bitAt_35 ?_
    refine sw_topi (z := nI ((8 * j) + i)) (nI_add _ _) ?_
    refine sw_lushr (pc := 36) C d_Sh_bitAt_36 ?_
    refine sw_topl (z := lN (n / 2 ^ (8 * j + i))) (wb_shr hn (by omega)) ?_
    refine sw_l2i (pc := 37) C d_Sh_bitAt_37 ?_
    refine sw_topi (z := nI (n / 2 ^ (8 * j + i))) (lN_i _) ?_
    refine sw_iconst (pc := 38) C (nI 1) d_Sh_bitAt_38 (by decide) ?_
    refine sw_iand (pc := 39) C d_Sh_bitAt_39 ?_
    refine sw_topi (z := nI (n / 2 ^ (8 * j + i) % 2)) (and1 _) ?_
    exact sw_iret (pc := 40) C E rfl (Nat.le_of_ble_eq_true rfl) (Nat.le_of_ble_eq_true rfl) d_Sh_bitAt_40 ⟨by rw [nI_toInt (by omega), nI_toInt (by omega), sb_in hi hj], rfl⟩
  refine sw_iconst (pc := 24) C (nI 0) d_Sh_bitAt_24 (by decide) ?_
  exact sw_iret (pc := 25) C E rfl (Nat.le_of_ble_eq_true rfl) (Nat.le_of_ble_eq_true rfl) d_Sh_bitAt_25 ⟨by rw [sb_yhi (by omega) (Int32.not_lt.mp h4)], rfl⟩
set_option maxRecDepth 100000 in
set_option maxHeartbeats 4000000 in
/-- Shape.contextAlone -/
theorem c_ctxA (l : Launch) (g : Gl) (a n w h : Nat) (bs : Int32) (hn : n < 2 ^ 64) (hw : w ≤ 8) (hh : h ≤ 8) (x y : Nat) (hx : x < 8) (hy : y < 8) : Ct l g y_Sh_contextAlone b_Sh_contextAlone 3 (some .int) (rmD 1) [.ref a, .int (nI x), .int (nI y)] (wSh a (lN n) (nI w) (nI h) bs) (fun v u => v = some (.int (nI (cxA (sb n w h) x y))) ∧ u = wSh a (lN n) (nI w) (nI h) bs) := by
  refine ct_of [some (.ref a), some (.int (nI x)), some (.int (nI y))] (by decide) (Nat.le_of_ble_eq_true rfl) rfl ?_
  intro X C E
  refine sw_aload_n (pc := 0) C d_Sh_contextAlone_0 rfl rfl ?_
  refine sw_iload_n (pc := 1) C d_Sh_contextAlone_1 rfl rfl ?_
  refine sw_iconst (pc := 2) C (nI 1) d_Sh_contextAlone_2 (by decide) ?_
  refine sw_isub (pc := 3) C d_Sh_contextAlone_3 ?_
  refine sw_iload_n (pc := 4) C d_Sh_contextAlone_4 rfl rfl ?_
  refine sw_callVR (pc := 5) C (c_bitAt l g a n w h bs hn hw hh (nI x - nI 1) (nI y)) sv_Sh_bitAt t_359 rfl rfl rfl [0] rfl rfl rfl rfl (Nat.le_of_ble_eq_true rfl) (Nat.le_of_ble_eq_true rfl) (Nat.le_of_ble_eq_true rfl) (Nat.le_of_ble_eq_true rfl) (Nat.le_of_ble_eq_true rfl) d_Sh_contextAlone_5 (fun v w1 hp => ?_)
  obtain ⟨rfl, rfl⟩ := hp
  refine ⟨rfl, ?_⟩
  refine sw_topi (z := nI (sb n w h ((x : Int) - 1) ((y : Int)))) (by rw [ti1 (show x < 2 ^ 30 by omega), ti0 (show y < 2 ^ 30 by omega)]) ?_
  refine sw_iconst (pc := 8) C (nI 2) d_Sh_contextAlone_8 (by decide) ?_
  refine sw_aload_n (pc := 9) C d_Sh_contextAlone_9 rfl rfl ?_
  refine sw_iload_n (pc := 10) C d_Sh_contextAlone_10 rfl rfl ?_
  refine sw_iconst (pc := 11) C (nI 1) d_Sh_contextAlone_11 (by decide) ?_
  refine sw_isub (pc := 12) C d_Sh_contextAlone_12 ?_
  refine sw_iload_n (pc := 13) C d_Sh_contextAlone_13 rfl rfl ?_
  refine sw_iconst (pc := 14) C (nI 1) d_Sh_contextAlone_14 (by decide) ?_
  refine sw_isub (pc := 15) C d_Sh_contextAlone_15 ?_
  refine sw_callVR (pc := 16) C (c_bitAt l g a n w h bs hn hw hh (nI x - nI 1) (nI y - nI 1)) sv_Sh_bitAt t_359 rfl rfl rfl [0] rfl rfl rfl rfl (Nat.le_of_ble_eq_true rfl) (Nat.le_of_ble_eq_true rfl) (Nat.le_of_ble_eq_true rfl) (Nat.le_of_ble_eq_true rfl) (Nat.le_of_ble_eq_true rfl) d_Sh_contextAlone_16 (fun v w1 hp => ?_)
  obtain ⟨rfl, rfl⟩ := hp
  refine ⟨rfl, ?_⟩
  refine sw_topi (z := nI (sb n w h ((x : Int) - 1) ((y : Int) - 1))) (by rw [ti1 (show x < 2 ^ 30 by omega), ti1 (show y < 2 ^ 30 by omega)]) ?_
  refine sw_imul (pc := 19) C d_Sh_contextAlone_19 ?_
  refine sw_topi (z := nI (2 * (sb n w h ((x : Int) - 1) ((y : Int) - 1)))) (pk_mul _ _) ?_
  refine sw_iadd (pc := 20) C d_Sh_contextAlone_20 ?_
  refine sw_topi (z := nI ((sb n w h ((x : Int) - 1) ((y : Int))) + (2 * (sb n w h ((x : Int) - 1) ((y : Int) - 1))))) (nI_add _ _) ?_
  refine sw_iconst (pc := 21) C (nI 4) d_Sh_contextAlone_21 (by decide) ?_
  refine sw_aload_n (pc := 22) C d_Sh_contextAlone_22 rfl rfl ?_
  refine sw_iload_n (pc := 23) C d_Sh_contextAlone_23 rfl rfl ?_
  refine sw_iload_n (pc := 24) C d_Sh_contextAlone_24 rfl rfl ?_
  refine sw_iconst (pc := 25) C (nI 1) d_Sh_contextAlone_25 (by decide) ?_
  refine sw_isub (pc := 26) C d_Sh_contextAlone_26 ?_
  refine sw_callVR (pc := 27) C (c_bitAt l g a n w h bs hn hw hh (nI x) (nI y - nI 1)) sv_Sh_bitAt t_359 rfl rfl rfl [0] rfl rfl rfl rfl (Nat.le_of_ble_eq_true rfl) (Nat.le_of_ble_eq_true rfl) (Nat.le_of_ble_eq_true rfl) (Nat.le_of_ble_eq_true rfl) (Nat.le_of_ble_eq_true rfl) d_Sh_contextAlone_27 (fun v w1 hp => ?_)
  obtain ⟨rfl, rfl⟩ := hp
  refine ⟨rfl, ?_⟩
  refine sw_topi (z := nI (sb n w h ((x : Int)) ((y : Int) - 1))) (by rw [ti0 (show x < 2 ^ 30 by omega), ti1 (show y < 2 ^ 30 by omega)]) ?_
  refine sw_imul (pc := 30) C d_Sh_contextAlone_30 ?_
  refine sw_topi (z := nI (4 * (sb n w h ((x : Int)) ((y : Int) - 1)))) (pk_mul _ _) ?_
  refine sw_iadd (pc := 31) C d_Sh_contextAlone_31 ?_
  refine sw_topi (z := nI (((sb n w h ((x : Int) - 1) ((y : Int))) + (2 * (sb n w h ((x : Int) - 1) ((y : Int) - 1)))) + (4 * (sb n w h ((x : Int)) ((y : Int) - 1))))) (nI_add _ _) ?_
  refine sw_bipush (pc := 32) C (nI 8) d_Sh_contextAlone_32 (by decide) ?_
  refine sw_aload_n (pc := 34) C d_Sh_contextAlone_34 rfl rfl ?_
  refine sw_iload_n (pc := 35) C d_Sh_contextAlone_35 rfl rfl ?_
  refine sw_iconst (pc := 36) C (nI 1) d_Sh_contextAlone_36 (by decide) ?_
  refine sw_iadd (pc := 37) C d_Sh_contextAlone_37 ?_
  refine sw_topi (z := nI (x + 1)) (nI_add _ _) ?_
  refine sw_iload_n (pc := 38) C d_Sh_contextAlone_38 rfl rfl ?_
  refine sw_iconst (pc := 39) C (nI 1) d_Sh_contextAlone_39 (by decide) ?_
  refine sw_isub (pc := 40) C d_Sh_contextAlone_40 ?_
  refine sw_callVR (pc := 41) C (c_bitAt l g a n w h bs hn hw hh (nI (x + 1)) (nI y - nI 1)) sv_Sh_bitAt t_359 rfl rfl rfl [0] rfl rfl rfl rfl (Nat.le_of_ble_eq_true rfl) (Nat.le_of_ble_eq_true rfl) (Nat.le_of_ble_eq_true rfl) (Nat.le_of_ble_eq_true rfl) (Nat.le_of_ble_eq_true rfl) d_Sh_contextAlone_41 (fun v w1 hp => ?_)
  obtain ⟨rfl, rfl⟩ := hp
  refine ⟨rfl, ?_⟩
  refine sw_topi (z := nI (sb n w h ((x : Int) + 1) ((y : Int) - 1))) (by rw [show (nI (x + 1)).toInt = (x : Int) + 1 from by rw [ti0 (by omega)]; omega, ti1 (show y < 2 ^ 30 by omega)]) ?_
  refine sw_imul (pc := 44) C d_Sh_contextAlone_44 ?_
  refine sw_topi (z := nI (8 * (sb n w h ((x : Int) + 1) ((y : Int) - 1)))) (pk_mul _ _) ?_
  refine sw_iadd (pc := 45) C d_Sh_contextAlone_45 ?_
  refine sw_topi (z := nI ((((sb n w h ((x : Int) - 1) ((y : Int))) + (2 * (sb n w h ((x : Int) - 1) ((y : Int) - 1)))) + (4 * (sb n w h ((x : Int)) ((y : Int) - 1)))) + (8 * (sb n w h ((x : Int) + 1) ((y : Int) - 1))))) (nI_add _ _) ?_
  exact sw_iret (pc := 46) C E rfl (Nat.le_of_ble_eq_true rfl) (Nat.le_of_ble_eq_true rfl) d_Sh_contextAlone_46 ⟨rfl, rfl⟩
set_option maxRecDepth 100000 in
set_option maxHeartbeats 4000000 in
/-- Shape.contextWith -/
theorem c_ctxB (l : Launch) (g : Gl) (a n w h : Nat) (bs : Int32) (hn : n < 2 ^ 64) (hw : w ≤ 8) (hh : h ≤ 8) (a2 n2 w2 h2 : Nat) (bs2 : Int32) (hn2 : n2 < 2 ^ 64) (hw2 : w2 ≤ 8) (hh2 : h2 ≤ 8) (x y : Nat) (hx : x < 8) (hy : y < 8) : Ct l g y_Sh_contextWith b_Sh_contextWith 4 (some .int) (rmD 1) [.ref a, .ref a2, .int (nI x), .int (nI y)] (wSh a (lN n) (nI w) (nI h) bs ++ wSh a2 (lN n2) (nI w2) (nI h2) bs2) (fun v u => v = some (.int (nI (cxB (sb n w h) (sb n2 w2 h2) x y))) ∧ u = wSh a (lN n) (nI w) (nI h) bs ++ wSh a2 (lN n2) (nI w2) (nI h2) bs2) := by
  refine ct_of [some (.ref a), some (.ref a2), some (.int (nI x)), some (.int (nI y))] (by decide) (Nat.le_of_ble_eq_true rfl) rfl ?_
  intro X C E
  refine sw_bipush (pc := 0) C (nI 16) d_Sh_contextWith_0 (by decide) ?_
  refine sw_aload_n (pc := 2) C d_Sh_contextWith_2 rfl rfl ?_
  refine sw_iload_n (pc := 3) C d_Sh_contextWith_3 rfl rfl ?_
  refine sw_iconst (pc := 4) C (nI 1) d_Sh_contextWith_4 (by decide) ?_
  refine sw_isub (pc := 5) C d_Sh_contextWith_5 ?_
  refine sw_iload_n (pc := 6) C d_Sh_contextWith_6 rfl rfl ?_
  refine sw_callVR (pc := 7) C (c_bitAt l g a n w h bs hn hw hh (nI x - nI 1) (nI y)) sv_Sh_bitAt t_359 rfl rfl rfl [0] rfl rfl rfl rfl (Nat.le_of_ble_eq_true rfl) (Nat.le_of_ble_eq_true rfl) (Nat.le_of_ble_eq_true rfl) (Nat.le_of_ble_eq_true rfl) (Nat.le_of_ble_eq_true rfl) d_Sh_contextWith_7 (fun v w1 hp => ?_)
  obtain ⟨rfl, rfl⟩ := hp
  refine ⟨rfl, ?_⟩
  refine sw_topi (z := nI (sb n w h ((x : Int) - 1) ((y : Int)))) (by rw [ti1 (show x < 2 ^ 30 by omega), ti0 (show y < 2 ^ 30 by omega)]) ?_
  refine sw_iadd (pc := 10) C d_Sh_contextWith_10 ?_
  refine sw_topi (z := nI (16 + (sb n w h ((x : Int) - 1) ((y : Int))))) (nI_add _ _) ?_
  refine sw_iconst (pc := 11) C (nI 2) d_Sh_contextWith_11 (by decide) ?_
  refine sw_aload_n (pc := 12) C d_Sh_contextWith_12 rfl rfl ?_
  refine sw_iload_n (pc := 13) C d_Sh_contextWith_13 rfl rfl ?_
  refine sw_iload_n (pc := 14) C d_Sh_contextWith_14 rfl rfl ?_
  refine sw_iconst (pc := 15) C (nI 1) d_Sh_contextWith_15 (by decide) ?_
  refine sw_isub (pc := 16) C d_Sh_contextWith_16 ?_
  refine sw_callVR (pc := 17) C (c_bitAt l g a n w h bs hn hw hh (nI x) (nI y - nI 1)) sv_Sh_bitAt t_359 rfl rfl rfl [0] rfl rfl rfl rfl (Nat.le_of_ble_eq_true rfl) (Nat.le_of_ble_eq_true rfl) (Nat.le_of_ble_eq_true rfl) (Nat.le_of_ble_eq_true rfl) (Nat.le_of_ble_eq_true rfl) d_Sh_contextWith_17 (fun v w1 hp => ?_)
  obtain ⟨rfl, rfl⟩ := hp
  refine ⟨rfl, ?_⟩
  refine sw_topi (z := nI (sb n w h ((x : Int)) ((y : Int) - 1))) (by rw [ti0 (show x < 2 ^ 30 by omega), ti1 (show y < 2 ^ 30 by omega)]) ?_
  refine sw_imul (pc := 20) C d_Sh_contextWith_20 ?_
  refine sw_topi (z := nI (2 * (sb n w h ((x : Int)) ((y : Int) - 1)))) (pk_mul _ _) ?_
  refine sw_iadd (pc := 21) C d_Sh_contextWith_21 ?_
  refine sw_topi (z := nI ((16 + (sb n w h ((x : Int) - 1) ((y : Int)))) + (2 * (sb n w h ((x : Int)) ((y : Int) - 1))))) (nI_add _ _) ?_
  refine sw_iconst (pc := 22) C (nI 4) d_Sh_contextWith_22 (by decide) ?_
  refine sw_aload_n (pc := 23) C d_Sh_contextWith_23 rfl rfl ?_
  refine sw_iload_n (pc := 24) C d_Sh_contextWith_24 rfl rfl ?_
  refine sw_iload_n (pc := 25) C d_Sh_contextWith_25 rfl rfl ?_
  refine sw_callVR (pc := 26) C (c_bitAt l g a2 n2 w2 h2 bs2 hn2 hw2 hh2 (nI x) (nI y)) sv_Sh_bitAt t_359 rfl rfl rfl [1] rfl rfl rfl rfl (Nat.le_of_ble_eq_true rfl) (Nat.le_of_ble_eq_true rfl) (Nat.le_of_ble_eq_true rfl) (Nat.le_of_ble_eq_true rfl) (Nat.le_of_ble_eq_true rfl) d_Sh_contextWith_26 (fun v w1 hp => ?_)
  obtain ⟨rfl, rfl⟩ := hp
  refine ⟨rfl, ?_⟩
  refine sw_topi (z := nI (sb n2 w2 h2 ((x : Int)) ((y : Int)))) (by rw [ti0 (show x < 2 ^ 30 by omega), ti0 (show y < 2 ^ 30 by omega)]) ?_
  refine sw_imul (pc := 29) C d_Sh_contextWith_29 ?_
  refine sw_topi (z := nI (4 * (sb n2 w2 h2 ((x : Int)) ((y : Int))))) (pk_mul _ _) ?_
  refine sw_iadd (pc := 30) C d_Sh_contextWith_30 ?_
  refine sw_topi (z := nI (((16 + (sb n w h ((x : Int) - 1) ((y : Int)))) + (2 * (sb n w h ((x : Int)) ((y : Int) - 1)))) + (4 * (sb n2 w2 h2 ((x : Int)) ((y : Int)))))) (nI_add _ _) ?_
  refine sw_bipush (pc := 31) C (nI 8) d_Sh_contextWith_31 (by decide) ?_
  refine sw_aload_n (pc := 33) C d_Sh_contextWith_33 rfl rfl ?_
  refine sw_iload_n (pc := 34) C d_Sh_contextWith_34 rfl rfl ?_
  refine sw_iconst (pc := 35) C (nI 1) d_Sh_contextWith_35 (by decide) ?_
  refine sw_iadd (pc := 36) C d_Sh_contextWith_36 ?_
  refine sw_topi (z := nI (x + 1)) (nI_add _ _) ?_
  refine sw_iload_n (pc := 37) C d_Sh_contextWith_37 rfl rfl ?_
  refine sw_callVR (pc := 38) C (c_bitAt l g a2 n2 w2 h2 bs2 hn2 hw2 hh2 (nI (x + 1)) (nI y)) sv_Sh_bitAt t_359 rfl rfl rfl [1] rfl rfl rfl rfl (Nat.le_of_ble_eq_true rfl) (Nat.le_of_ble_eq_true rfl) (Nat.le_of_ble_eq_true rfl) (Nat.le_of_ble_eq_true rfl) (Nat.le_of_ble_eq_true rfl) d_Sh_contextWith_38 (fun v w1 hp => ?_)
  obtain ⟨rfl, rfl⟩ := hp
  refine ⟨rfl, ?_⟩
  refine sw_topi (z := nI (sb n2 w2 h2 ((x : Int) + 1) ((y : Int)))) (by rw [show (nI (x + 1)).toInt = (x : Int) + 1 from by rw [ti0 (by omega)]; omega, ti0 (show y < 2 ^ 30 by omega)]) ?_
  refine sw_imul (pc := 41) C d_Sh_contextWith_41 ?_
  refine sw_topi (z := nI (8 * (sb n2 w2 h2 ((x : Int) + 1) ((y : Int))))) (pk_mul _ _) ?_
  refine sw_iadd (pc := 42) C d_Sh_contextWith_42 ?_
  refine sw_topi (z := nI ((((16 + (sb n w h ((x : Int) - 1) ((y : Int)))) + (2 * (sb n w h ((x : Int)) ((y : Int) - 1)))) + (4 * (sb n2 w2 h2 ((x : Int)) ((y : Int))))) + (8 * (sb n2 w2 h2 ((x : Int) + 1) ((y : Int)))))) (nI_add _ _) ?_
  refine sw_bipush (pc := 43) C (nI 16) d_Sh_contextWith_43 (by decide) ?_
  refine sw_aload_n (pc := 45) C d_Sh_contextWith_45 rfl rfl ?_
  refine sw_iload_n (pc := 46) C d_Sh_contextWith_46 rfl rfl ?_
  refine sw_iload_n (pc := 47) C d_Sh_contextWith_47 rfl rfl ?_
  refine sw_iconst (pc := 48) C (nI 1) d_Sh_contextWith_48 (by decide) ?_
  refine sw_iadd (pc := 49) C d_Sh_contextWith_49 ?_
  refine sw_topi (z := nI (y + 1)) (nI_add _ _) ?_
  refine sw_callVR (pc := 50) C (c_bitAt l g a2 n2 w2 h2 bs2 hn2 hw2 hh2 (nI x) (nI (y + 1))) sv_Sh_bitAt t_359 rfl rfl rfl [1] rfl rfl rfl rfl (Nat.le_of_ble_eq_true rfl) (Nat.le_of_ble_eq_true rfl) (Nat.le_of_ble_eq_true rfl) (Nat.le_of_ble_eq_true rfl) (Nat.le_of_ble_eq_true rfl) d_Sh_contextWith_50 (fun v w1 hp => ?_)
  obtain ⟨rfl, rfl⟩ := hp
  refine ⟨rfl, ?_⟩
  refine sw_topi (z := nI (sb n2 w2 h2 ((x : Int)) ((y : Int) + 1))) (by rw [ti0 (show x < 2 ^ 30 by omega), show (nI (y + 1)).toInt = (y : Int) + 1 from by rw [ti0 (by omega)]; omega]) ?_
  refine sw_imul (pc := 53) C d_Sh_contextWith_53 ?_
  refine sw_topi (z := nI (16 * (sb n2 w2 h2 ((x : Int)) ((y : Int) + 1)))) (pk_mul _ _) ?_
  refine sw_iadd (pc := 54) C d_Sh_contextWith_54 ?_
  refine sw_topi (z := nI (((((16 + (sb n w h ((x : Int) - 1) ((y : Int)))) + (2 * (sb n w h ((x : Int)) ((y : Int) - 1)))) + (4 * (sb n2 w2 h2 ((x : Int)) ((y : Int))))) + (8 * (sb n2 w2 h2 ((x : Int) + 1) ((y : Int))))) + (16 * (sb n2 w2 h2 ((x : Int)) ((y : Int) + 1))))) (nI_add _ _) ?_
  exact sw_iret (pc := 55) C E rfl (Nat.le_of_ble_eq_true rfl) (Nat.le_of_ble_eq_true rfl) d_Sh_contextWith_55 ⟨rfl, rfl⟩
end
section
/-! the coders -/
def nF (f : Nat → Nat) : Nat → Int32 := fun k => nI (f k)
theorem nF_up (Z : Nat → Nat) (c x : Nat) : upd (nF Z) c (nI x) = nF (upN Z c x) := by
  funext k
  unfold upd nF upN
  split <;> rfl
theorem nF_at (Z : Nat → Nat) (c x : Nat) : nF (upN Z c x) c = nI x := by
  unfold nF upN
  rw [if_pos rfl]
theorem nF_re (Z : Nat → Nat) (c x y : Nat) : upd (nF (upN Z c x)) c (nI y) = nF (upN Z c y) := by
  funext k
  unfold upd nF upN
  split <;> rfl
theorem nF_self (Z : Nat → Nat) (c : Nat) : nF (upN Z c (Z c)) = nF Z := by
  funext k
  unfold nF upN
  split
  · rename_i h; rw [h]
  · rfl
/-- coder, counts: the writer's world with the row of the document l behind which the code stands -/
def wKw (g : Gl) (a z o r : Nat) (l : List Nat) (S : CS × Nat) : va_W := [(a, .inr (1, [.ref r, .int (nI l.length), .int (nI S.1.2.2.2), .ref z, .ref o, .int (nI S.1.2.2.1)])), (z, .inl (g.2.1, 48, .inl (nF S.1.1))), (o, .inl (g.2.1, 48, .inl (nF S.1.2.1))), (r, .inl (g.2.1, 1200, .inl (rowW l S.2 S.1.2.2.2)))]
/-- the digits of the bytes from fr to en -/
def dgt (l : List Nat) (fr en : Nat) : Nat → Nat := fun i => if i < 8 * (en - fr) then l.getD (fr + i / 8) 0 / 2 ^ (7 - i % 8) % 2 else 0
theorem dgt_le (l : List Nat) (fr en i : Nat) : dgt l fr en i ≤ 1 := by
  unfold dgt
  split <;> omega
def rdP (fr en p : Nat) : Nat := if p < 8 * (en - fr) then p else 8 * (en - fr)
theorem rdP_le (fr en p : Nat) : rdP fr en p ≤ 8 * (en - fr) := by
  unfold rdP
  split <;> omega
def wKq (g : Gl) (a z o r : Nat) (l : List Nat) (fr en p : Nat) (Z O : Nat → Nat) (W v : Nat) : va_W := [(a, .inr (0, [.ref r, .int (nI (fr + rdP fr en p / 8)), .int (nI en), .int (nI (rdP fr en p % 8)), .int (nI v), .ref z, .ref o, .int (nI W)])), (z, .inl (g.2.1, 48, .inl (nF Z))), (o, .inl (g.2.1, 48, .inl (nF O))), (r, .inl (g.2.1, 1200, .inl (rowOf l)))]
def wKr (g : Gl) (a z o r : Nat) (l : List Nat) (fr en : Nat) (S : CS × Nat) : va_W := wKq g a z o r l fr en (16 + S.1.2.2.2) S.1.1 S.1.2.1 S.1.2.2.1 S.2
set_option maxRecDepth 100000 in
set_option maxHeartbeats 4000000 in
theorem c_tally_w (l : Launch) (g : Gl) (a z o : Nat) (f0 f1 f2 : Value) (wd : Value) (Z O : Nat → Nat) (c b : Nat) (hc : c < 48) (hZ : Z c ≤ 31) (hO : O c ≤ 31) (hb : b ≤ 1) : Ct l g y_Cd_tally b_Cd_tally 3 none (rmD 0) [.ref a, .int (nI c), .int (nI b)] ([(a, .inr (1, [f0, f1, f2, .ref z, .ref o, wd])), (z, .inl (g.2.1, 48, .inl (nF Z))), (o, .inl (g.2.1, 48, .inl (nF O)))]) (fun v w => v = none ∧ w = [(a, .inr (1, [f0, f1, f2, .ref z, .ref o, wd])), (z, .inl (g.2.1, 48, .inl (nF (upN Z c (if b = 0 then csHalf (Z c + 1) (O c) else csHalf (Z c) (O c + 1)).1)))), (o, .inl (g.2.1, 48, .inl (nF (upN O c (if b = 0 then csHalf (Z c + 1) (O c) else csHalf (Z c) (O c + 1)).2))))]) := by
  refine ct_of [some (.ref a), some (.int (nI c)), some (.int (nI b))] (by decide) (Nat.le_of_ble_eq_true rfl) rfl ?_
  intro X C E
  have tail : ∀ P Q : Nat, P ≤ 32 → Q ≤ 32 → csHalf P Q = (if b = 0 then csHalf (Z c + 1) (O c) else csHalf (Z c) (O c + 1)) → SW X g 3 0 0 ([(a, .inr (1, [f0, f1, f2, .ref z, .ref o, wd])), (z, .inl (g.2.1, 48, .inl (nF (upN Z c P)))), (o, .inl (g.2.1, 48, .inl (nF (upN O c Q))))]) 27 [some (.ref a), some (.int (nI c)), some (.int (nI b))] [] := by
    intro P Q hP hQ hPQ
    refine sw_aload_n (pc := 27) C d_Cd_tally_27 rfl rfl ?_
    refine sw_get (pc := 28) C inCw 0 rfl rfl 3 (by decide) t_70 rfl rfl d_Cd_tally_28 ?_
    refine sw_iload_n (pc := 31) C d_Cd_tally_31 rfl rfl ?_
    refine sw_ialdN (pc := 32) C 1 c rfl rfl (by omega) (by decide) d_Cd_tally_32 ?_
    refine sw_topi (z := nI P) (nF_at _ _ _) ?_
    refine sw_aload_n (pc := 33) C d_Cd_tally_33 rfl rfl ?_
    refine sw_get (pc := 34) C inCw 0 rfl rfl 4 (by decide) t_71 rfl rfl d_Cd_tally_34 ?_
    refine sw_iload_n (pc := 37) C d_Cd_tally_37 rfl rfl ?_
    refine sw_ialdN (pc := 38) C 2 c rfl rfl (by omega) (by decide) d_Cd_tally_38 ?_
    refine sw_topi (z := nI Q) (nF_at _ _ _) ?_
    refine sw_iadd (pc := 39) C d_Cd_tally_39 ?_
    refine sw_topi (z := nI (P + Q)) (nI_add _ _) ?_
    refine sw_bipush (pc := 40) C (nI 32) d_Cd_tally_40 (by decide) ?_
    refine sw_icmp_neN (pc := 42) C 77 (by omega) (by omega) d_Cd_tally_42 (by decide) (fun h1 => ?_) (fun h1 => ?_)
    · skip
      have e : csHalf P Q = (P, Q) := by unfold csHalf; rw [if_neg h1]
      exact sw_vret (pc := 77) C E rfl (Nat.le_of_ble_eq_true rfl) (Nat.le_of_ble_eq_true rfl) d_Cd_tally_77 ⟨rfl, by rw [← hPQ, e]⟩
    refine sw_aload_n (pc := 45) C d_Cd_tally_45 rfl rfl ?_
    refine sw_get (pc := 46) C inCw 0 rfl rfl 3 (by decide) t_70 rfl rfl d_Cd_tally_46 ?_
    refine sw_iload_n (pc := 49) C d_Cd_tally_49 rfl rfl ?_
    refine sw_aload_n (pc := 50) C d_Cd_tally_50 rfl rfl ?_
    refine sw_get (pc := 51) C inCw 0 rfl rfl 3 (by decide) t_70 rfl rfl d_Cd_tally_51 ?_
    refine sw_iload_n (pc := 54) C d_Cd_tally_54 rfl rfl ?_
    refine sw_ialdN (pc := 55) C 1 c rfl rfl (by omega) (by decide) d_Cd_tally_55 ?_
    refine sw_topi (z := nI P) (nF_at _ _ _) ?_
    refine sw_iconst (pc := 56) C (nI 1) d_Cd_tally_56 (by decide) ?_
    refine sw_iadd (pc := 57) C d_Cd_tally_57 ?_
    refine sw_topi (z := nI (P + 1)) (nI_add _ _) ?_
    refine sw_iconst (pc := 58) C (nI 2) d_Cd_tally_58 (by decide) ?_
    refine sw_idiv (pc := 59) C d_Cd_tally_59 (by decide) ?_
    refine sw_topi (z := nI ((P + 1) / 2)) (pk_div (by omega) (by omega) (by omega)) ?_
    refine sw_iastN (pc := 60) C 1 c rfl rfl (by omega) (by decide) d_Cd_tally_60 ?_
    refine sw_ws (ws' := [(a, .inr (1, [f0, f1, f2, .ref z, .ref o, wd])), (z, .inl (g.2.1, 48, .inl (nF (upN Z c ((P + 1) / 2))))), (o, .inl (g.2.1, 48, .inl (nF (upN O c Q))))]) (by rw [← nF_re Z c P ((P + 1) / 2)]; rfl) ?_
    refine sw_aload_n (pc := 61) C d_Cd_tally_61 rfl rfl ?_
    refine sw_get (pc := 62) C inCw 0 rfl rfl 4 (by decide) t_71 rfl rfl d_Cd_tally_62 ?_
    refine sw_iload_n (pc := 65) C d_Cd_tally_65 rfl rfl ?_
    refine sw_aload_n (pc := 66) C d_Cd_tally_66 rfl rfl ?_
    refine sw_get (pc := 67) C inCw 0 rfl rfl 4 (by decide) t_71 rfl rfl d_Cd_tally_67 ?_
    refine sw_iload_n (pc := 70) C d_Cd_tally_70 rfl rfl ?_
    refine sw_ialdN (pc := 71) C 2 c rfl rfl (by omega) (by decide) d_Cd_tally_71 ?_
    refine sw_topi (z := nI Q) (nF_at _ _ _) ?_
    refine sw_iconst (pc := 72) C (nI 1) d_Cd_tally_72 (by decide) ?_
    refine sw_iadd (pc := 73) C d_Cd_tally_73 ?_
    refine sw_topi (z := nI (Q + 1)) (nI_add _ _) ?_
    refine sw_iconst (pc := 74) C (nI 2) d_Cd_tally_74 (by decide) ?_
    refine sw_idiv (pc := 75) C d_Cd_tally_75 (by decide) ?_
    refine sw_topi (z := nI ((Q + 1) / 2)) (pk_div (by omega) (by omega) (by omega)) ?_
    refine sw_iastN (pc := 76) C 2 c rfl rfl (by omega) (by decide) d_Cd_tally_76 ?_
    refine sw_ws (ws' := [(a, .inr (1, [f0, f1, f2, .ref z, .ref o, wd])), (z, .inl (g.2.1, 48, .inl (nF (upN Z c ((P + 1) / 2))))), (o, .inl (g.2.1, 48, .inl (nF (upN O c ((Q + 1) / 2)))))]) (by rw [← nF_re O c Q ((Q + 1) / 2)]; rfl) ?_
    have e : csHalf P Q = ((P + 1) / 2, (Q + 1) / 2) := by unfold csHalf; rw [if_pos h1]
    exact sw_vret (pc := 77) C E rfl (Nat.le_of_ble_eq_true rfl) (Nat.le_of_ble_eq_true rfl) d_Cd_tally_77 ⟨rfl, by rw [← hPQ, e]⟩
  refine sw_iload_n (pc := 0) C d_Cd_tally_0 rfl rfl ?_
  refine sw_if_neN (pc := 1) C 17 (by omega) d_Cd_tally_1 (by decide) (fun h0 => ?_) (fun h0 => ?_)
  · skip
    refine sw_aload_n (pc := 17) C d_Cd_tally_17 rfl rfl ?_
    refine sw_get (pc := 18) C inCw 0 rfl rfl 4 (by decide) t_71 rfl rfl d_Cd_tally_18 ?_
    refine sw_iload_n (pc := 21) C d_Cd_tally_21 rfl rfl ?_
    refine sw_dup2 (pc := 22) C d_Cd_tally_22 rfl rfl ?_
    refine sw_ialdN (pc := 23) C 2 c rfl rfl (by omega) (by decide) d_Cd_tally_23 ?_
    refine sw_topi (z := nI (O c)) rfl ?_
    refine sw_iconst (pc := 24) C (nI 1) d_Cd_tally_24 (by decide) ?_
    refine sw_iadd (pc := 25) C d_Cd_tally_25 ?_
    refine sw_topi (z := nI ((O c) + 1)) (nI_add _ _) ?_
    refine sw_iastN (pc := 26) C 2 c rfl rfl (by omega) (by decide) d_Cd_tally_26 ?_
    refine sw_ws (ws' := [(a, .inr (1, [f0, f1, f2, .ref z, .ref o, wd])), (z, .inl (g.2.1, 48, .inl (nF (upN Z c (Z c))))), (o, .inl (g.2.1, 48, .inl (nF (upN O c (O c + 1)))))]) (by rw [nF_self, ← nF_up]; rfl) ?_
    exact tail (Z c) (O c + 1) (by omega) (by omega) (by rw [if_neg (by omega)])
  refine sw_aload_n (pc := 4) C d_Cd_tally_4 rfl rfl ?_
  refine sw_get (pc := 5) C inCw 0 rfl rfl 3 (by decide) t_70 rfl rfl d_Cd_tally_5 ?_
  refine sw_iload_n (pc := 8) C d_Cd_tally_8 rfl rfl ?_
  refine sw_dup2 (pc := 9) C d_Cd_tally_9 rfl rfl ?_
  refine sw_ialdN (pc := 10) C 1 c rfl rfl (by omega) (by decide) d_Cd_tally_10 ?_
  refine sw_topi (z := nI (Z c)) rfl ?_
  refine sw_iconst (pc := 11) C (nI 1) d_Cd_tally_11 (by decide) ?_
  refine sw_iadd (pc := 12) C d_Cd_tally_12 ?_
  refine sw_topi (z := nI ((Z c) + 1)) (nI_add _ _) ?_
  refine sw_iastN (pc := 13) C 1 c rfl rfl (by omega) (by decide) d_Cd_tally_13 ?_
  refine sw_goto (pc := 14) C 27 d_Cd_tally_14 (by decide) ?_
  refine sw_ws (ws' := [(a, .inr (1, [f0, f1, f2, .ref z, .ref o, wd])), (z, .inl (g.2.1, 48, .inl (nF (upN Z c (Z c + 1))))), (o, .inl (g.2.1, 48, .inl (nF (upN O c (O c)))))]) (by rw [nF_self, ← nF_up]; rfl) ?_
  exact tail (Z c + 1) (O c) (by omega) (by omega) (by rw [if_pos h0])
set_option maxRecDepth 100000 in
set_option maxHeartbeats 4000000 in
theorem c_tally_r (l : Launch) (g : Gl) (a z o : Nat) (f0 f1 f2 f3 f4 : Value) (wd : Value) (Z O : Nat → Nat) (c b : Nat) (hc : c < 48) (hZ : Z c ≤ 31) (hO : O c ≤ 31) (hb : b ≤ 1) : Ct l g y_Cd_tally b_Cd_tally 3 none (rmD 0) [.ref a, .int (nI c), .int (nI b)] ([(a, .inr (0, [f0, f1, f2, f3, f4, .ref z, .ref o, wd])), (z, .inl (g.2.1, 48, .inl (nF Z))), (o, .inl (g.2.1, 48, .inl (nF O)))]) (fun v w => v = none ∧ w = [(a, .inr (0, [f0, f1, f2, f3, f4, .ref z, .ref o, wd])), (z, .inl (g.2.1, 48, .inl (nF (upN Z c (if b = 0 then csHalf (Z c + 1) (O c) else csHalf (Z c) (O c + 1)).1)))), (o, .inl (g.2.1, 48, .inl (nF (upN O c (if b = 0 then csHalf (Z c + 1) (O c) else csHalf (Z c) (O c + 1)).2))))]) := by
  refine ct_of [some (.ref a), some (.int (nI c)), some (.int (nI b))] (by decide) (Nat.le_of_ble_eq_true rfl) rfl ?_
  intro X C E
  have tail : ∀ P Q : Nat, P ≤ 32 → Q ≤ 32 → csHalf P Q = (if b = 0 then csHalf (Z c + 1) (O c) else csHalf (Z c) (O c + 1)) → SW X g 3 0 0 ([(a, .inr (0, [f0, f1, f2, f3, f4, .ref z, .ref o, wd])), (z, .inl (g.2.1, 48, .inl (nF (upN Z c P)))), (o, .inl (g.2.1, 48, .inl (nF (upN O c Q))))]) 27 [some (.ref a), some (.int (nI c)), some (.int (nI b))] [] := by
    intro P Q hP hQ hPQ
    refine sw_aload_n (pc := 27) C d_Cd_tally_27 rfl rfl ?_
    refine sw_get (pc := 28) C inCr 0 rfl rfl 5 (by decide) t_70 rfl rfl d_Cd_tally_28 ?_
    refine sw_iload_n (pc := 31) C d_Cd_tally_31 rfl rfl ?_
    refine sw_ialdN (pc := 32) C 1 c rfl rfl (by omega) (by decide) d_Cd_tally_32 ?_
    refine sw_topi (z := nI P) (nF_at _ _ _) ?_
    refine sw_aload_n (pc := 33) C d_Cd_tally_33 rfl rfl ?_
    refine sw_get (pc := 34) C inCr 0 rfl rfl 6 (by decide) t_71 rfl rfl d_Cd_tally_34 ?_
    refine sw_iload_n (pc := 37) C d_Cd_tally_37 rfl rfl ?_
    refine sw_ialdN (pc := 38) C 2 c rfl rfl (by omega) (by decide) d_Cd_tally_38 ?_
    refine sw_topi (z := nI Q) (nF_at _ _ _) ?_
    refine sw_iadd (pc := 39) C d_Cd_tally_39 ?_
    refine sw_topi (z := nI (P + Q)) (nI_add _ _) ?_
    refine sw_bipush (pc := 40) C (nI 32) d_Cd_tally_40 (by decide) ?_
    refine sw_icmp_neN (pc := 42) C 77 (by omega) (by omega) d_Cd_tally_42 (by decide) (fun h1 => ?_) (fun h1 => ?_)
    · skip
      have e : csHalf P Q = (P, Q) := by unfold csHalf; rw [if_neg h1]
      exact sw_vret (pc := 77) C E rfl (Nat.le_of_ble_eq_true rfl) (Nat.le_of_ble_eq_true rfl) d_Cd_tally_77 ⟨rfl, by rw [← hPQ, e]⟩
    refine sw_aload_n (pc := 45) C d_Cd_tally_45 rfl rfl ?_
    refine sw_get (pc := 46) C inCr 0 rfl rfl 5 (by decide) t_70 rfl rfl d_Cd_tally_46 ?_
    refine sw_iload_n (pc := 49) C d_Cd_tally_49 rfl rfl ?_
    refine sw_aload_n (pc := 50) C d_Cd_tally_50 rfl rfl ?_
    refine sw_get (pc := 51) C inCr 0 rfl rfl 5 (by decide) t_70 rfl rfl d_Cd_tally_51 ?_
    refine sw_iload_n (pc := 54) C d_Cd_tally_54 rfl rfl ?_
    refine sw_ialdN (pc := 55) C 1 c rfl rfl (by omega) (by decide) d_Cd_tally_55 ?_
    refine sw_topi (z := nI P) (nF_at _ _ _) ?_
    refine sw_iconst (pc := 56) C (nI 1) d_Cd_tally_56 (by decide) ?_
    refine sw_iadd (pc := 57) C d_Cd_tally_57 ?_
    refine sw_topi (z := nI (P + 1)) (nI_add _ _) ?_
    refine sw_iconst (pc := 58) C (nI 2) d_Cd_tally_58 (by decide) ?_
    refine sw_idiv (pc := 59) C d_Cd_tally_59 (by decide) ?_
    refine sw_topi (z := nI ((P + 1) / 2)) (pk_div (by omega) (by omega) (by omega)) ?_
    refine sw_iastN (pc := 60) C 1 c rfl rfl (by omega) (by decide) d_Cd_tally_60 ?_
    refine sw_ws (ws' := [(a, .inr (0, [f0, f1, f2, f3, f4, .ref z, .ref o, wd])), (z, .inl (g.2.1, 48, .inl (nF (upN Z c ((P + 1) / 2))))), (o, .inl (g.2.1, 48, .inl (nF (upN O c Q))))]) (by rw [← nF_re Z c P ((P + 1) / 2)]; rfl) ?_
    refine sw_aload_n (pc := 61) C d_Cd_tally_61 rfl rfl ?_
    refine sw_get (pc := 62) C inCr 0 rfl rfl 6 (by decide) t_71 rfl rfl d_Cd_tally_62 ?_
    refine sw_iload_n (pc := 65) C d_Cd_tally_65 rfl rfl ?_
    refine sw_aload_n (pc := 66) C d_Cd_tally_66 rfl rfl ?_
    refine sw_get (pc := 67) C inCr 0 rfl rfl 6 (by decide) t_71 rfl rfl d_Cd_tally_67 ?_
    refine sw_iload_n (pc := 70) C d_Cd_tally_70 rfl rfl ?_
    refine sw_ialdN (pc := 71) C 2 c rfl rfl (by omega) (by decide) d_Cd_tally_71 ?_
    refine sw_topi (z := nI Q) (nF_at _ _ _) ?_
    refine sw_iconst (pc := 72) C (nI 1) d_Cd_tally_72 (by decide) ?_
    refine sw_iadd (pc := 73) C d_Cd_tally_73 ?_
    refine sw_topi (z := nI (Q + 1)) (nI_add _ _) ?_
    refine sw_iconst (pc := 74) C (nI 2) d_Cd_tally_74 (by decide) ?_
    refine sw_idiv (pc := 75) C d_Cd_tally_75 (by decide) ?_
    refine sw_topi (z := nI ((Q + 1) / 2)) (pk_div (by omega) (by omega) (by omega)) ?_
    refine sw_iastN (pc := 76) C 2 c rfl rfl (by omega) (by decide) d_Cd_tally_76 ?_
    refine sw_ws (ws' := [(a, .inr (0, [f0, f1, f2, f3, f4, .ref z, .ref o, wd])), (z, .inl (g.2.1, 48, .inl (nF (upN Z c ((P + 1) / 2))))), (o, .inl (g.2.1, 48, .inl (nF (upN O c ((Q + 1) / 2)))))]) (by rw [← nF_re O c Q ((Q + 1) / 2)]; rfl) ?_
    have e : csHalf P Q = ((P + 1) / 2, (Q + 1) / 2) := by unfold csHalf; rw [if_pos h1]
    exact sw_vret (pc := 77) C E rfl (Nat.le_of_ble_eq_true rfl) (Nat.le_of_ble_eq_true rfl) d_Cd_tally_77 ⟨rfl, by rw [← hPQ, e]⟩
  refine sw_iload_n (pc := 0) C d_Cd_tally_0 rfl rfl ?_
  refine sw_if_neN (pc := 1) C 17 (by omega) d_Cd_tally_1 (by decide) (fun h0 => ?_) (fun h0 => ?_)
  · skip
    refine sw_aload_n (pc := 17) C d_Cd_tally_17 rfl rfl ?_
    refine sw_get (pc := 18) C inCr 0 rfl rfl 6 (by decide) t_71 rfl rfl d_Cd_tally_18 ?_
    refine sw_iload_n (pc := 21) C d_Cd_tally_21 rfl rfl ?_
    refine sw_dup2 (pc := 22) C d_Cd_tally_22 rfl rfl ?_
    refine sw_ialdN (pc := 23) C 2 c rfl rfl (by omega) (by decide) d_Cd_tally_23 ?_
    refine sw_topi (z := nI (O c)) rfl ?_
    refine sw_iconst (pc := 24) C (nI 1) d_Cd_tally_24 (by decide) ?_
    refine sw_iadd (pc := 25) C d_Cd_tally_25 ?_
    refine sw_topi (z := nI ((O c) + 1)) (nI_add _ _) ?_
    refine sw_iastN (pc := 26) C 2 c rfl rfl (by omega) (by decide) d_Cd_tally_26 ?_
    refine sw_ws (ws' := [(a, .inr (0, [f0, f1, f2, f3, f4, .ref z, .ref o, wd])), (z, .inl (g.2.1, 48, .inl (nF (upN Z c (Z c))))), (o, .inl (g.2.1, 48, .inl (nF (upN O c (O c + 1)))))]) (by rw [nF_self, ← nF_up]; rfl) ?_
    exact tail (Z c) (O c + 1) (by omega) (by omega) (by rw [if_neg (by omega)])
  refine sw_aload_n (pc := 4) C d_Cd_tally_4 rfl rfl ?_
  refine sw_get (pc := 5) C inCr 0 rfl rfl 5 (by decide) t_70 rfl rfl d_Cd_tally_5 ?_
  refine sw_iload_n (pc := 8) C d_Cd_tally_8 rfl rfl ?_
  refine sw_dup2 (pc := 9) C d_Cd_tally_9 rfl rfl ?_
  refine sw_ialdN (pc := 10) C 1 c rfl rfl (by omega) (by decide) d_Cd_tally_10 ?_
  refine sw_topi (z := nI (Z c)) rfl ?_
  refine sw_iconst (pc := 11) C (nI 1) d_Cd_tally_11 (by decide) ?_
  refine sw_iadd (pc := 12) C d_Cd_tally_12 ?_
  refine sw_topi (z := nI ((Z c) + 1)) (nI_add _ _) ?_
  refine sw_iastN (pc := 13) C 1 c rfl rfl (by omega) (by decide) d_Cd_tally_13 ?_
  refine sw_goto (pc := 14) C 27 d_Cd_tally_14 (by decide) ?_
  refine sw_ws (ws' := [(a, .inr (0, [f0, f1, f2, f3, f4, .ref z, .ref o, wd])), (z, .inl (g.2.1, 48, .inl (nF (upN Z c (Z c + 1))))), (o, .inl (g.2.1, 48, .inl (nF (upN O c (O c)))))]) (by rw [nF_self, ← nF_up]; rfl) ?_
  exact tail (Z c + 1) (O c) (by omega) (by omega) (by rw [if_pos h0])
set_option maxRecDepth 100000 in
set_option maxHeartbeats 4000000 in
theorem c_restart_w (l : Launch) (g : Gl) (a z o : Nat) (f0 f1 f2 : Value) (wd : Int32) (f h : Nat → Int32) : Ct l g y_Cd_restart b_Cd_restart 1 none (rmD 1) [.ref a] ([(a, .inr (1, [f0, f1, f2, .ref z, .ref o, .int wd])), (z, .inl (g.2.1, 48, .inl (f))), (o, .inl (g.2.1, 48, .inl (h)))]) (fun v w => v = none ∧ w = [(a, .inr (1, [f0, f1, f2, .ref z, .ref o, .int (nI 65536)])), (z, .inl (g.2.1, 48, .inl (nF (fun _ => 1)))), (o, .inl (g.2.1, 48, .inl (nF (fun _ => 1))))]) := by
  refine ct_of [some (.ref a)] (by decide) (Nat.le_of_ble_eq_true rfl) rfl ?_
  intro X C E
  refine sw_aload_n (pc := 0) C d_Cd_restart_0 rfl rfl ?_
  refine sw_get (pc := 1) C inCw 0 rfl rfl 3 (by decide) t_70 rfl rfl d_Cd_restart_1 ?_
  refine sw_iconst (pc := 4) C (nI 1) d_Cd_restart_4 (by decide) ?_
  refine sw_callSP (pc := 5) C (c_fill l g z 48 f (nI 1) (by decide)) ss_Ar_fill t_64 [1] rfl rfl rfl rfl (Nat.le_of_ble_eq_true rfl) (Nat.le_of_ble_eq_true rfl) (Nat.le_of_ble_eq_true rfl) (Nat.le_of_ble_eq_true rfl) (Nat.le_of_ble_eq_true rfl) d_Cd_restart_5 (fun v w1 hp => ?_)
  obtain ⟨rfl, rfl⟩ := hp
  refine ⟨rfl, ?_⟩
  refine sw_ws (ws' := [(a, .inr (1, [f0, f1, f2, .ref z, .ref o, .int wd])), (z, .inl (g.2.1, 48, .inl (nF (fun _ => 1)))), (o, .inl (g.2.1, 48, .inl (h)))]) rfl ?_
  refine sw_aload_n (pc := 8) C d_Cd_restart_8 rfl rfl ?_
  refine sw_get (pc := 9) C inCw 0 rfl rfl 4 (by decide) t_71 rfl rfl d_Cd_restart_9 ?_
  refine sw_iconst (pc := 12) C (nI 1) d_Cd_restart_12 (by decide) ?_
  refine sw_callSP (pc := 13) C (c_fill l g o 48 h (nI 1) (by decide)) ss_Ar_fill t_64 [2] rfl rfl rfl rfl (Nat.le_of_ble_eq_true rfl) (Nat.le_of_ble_eq_true rfl) (Nat.le_of_ble_eq_true rfl) (Nat.le_of_ble_eq_true rfl) (Nat.le_of_ble_eq_true rfl) d_Cd_restart_13 (fun v w1 hp => ?_)
  obtain ⟨rfl, rfl⟩ := hp
  refine ⟨rfl, ?_⟩
  refine sw_ws (ws' := [(a, .inr (1, [f0, f1, f2, .ref z, .ref o, .int wd])), (z, .inl (g.2.1, 48, .inl (nF (fun _ => 1)))), (o, .inl (g.2.1, 48, .inl (nF (fun _ => 1))))]) rfl ?_
  refine sw_aload_n (pc := 16) C d_Cd_restart_16 rfl rfl ?_
  refine sw_ldc (pc := 17) C t_57 d_Cd_restart_17 ?_
  refine sw_topi (z := nI 65536) rfl ?_
  refine sw_put (pc := 19) C inCw 0 rfl rfl 5 (by decide) tyCw okCw nmCw t_72 rfl rfl (ty := .int) (by decide +kernel) rfl rfl (Nat.le_of_ble_eq_true rfl) d_Cd_restart_19 ?_
  exact sw_vret (pc := 22) C E rfl (Nat.le_of_ble_eq_true rfl) (Nat.le_of_ble_eq_true rfl) d_Cd_restart_22 ⟨rfl, rfl⟩
set_option maxRecDepth 100000 in
set_option maxHeartbeats 4000000 in
theorem c_restart_r (l : Launch) (g : Gl) (a z o : Nat) (f0 f1 f2 f3 f4 : Value) (wd : Int32) (f h : Nat → Int32) : Ct l g y_Cd_restart b_Cd_restart 1 none (rmD 1) [.ref a] ([(a, .inr (0, [f0, f1, f2, f3, f4, .ref z, .ref o, .int wd])), (z, .inl (g.2.1, 48, .inl (f))), (o, .inl (g.2.1, 48, .inl (h)))]) (fun v w => v = none ∧ w = [(a, .inr (0, [f0, f1, f2, f3, f4, .ref z, .ref o, .int (nI 65536)])), (z, .inl (g.2.1, 48, .inl (nF (fun _ => 1)))), (o, .inl (g.2.1, 48, .inl (nF (fun _ => 1))))]) := by
  refine ct_of [some (.ref a)] (by decide) (Nat.le_of_ble_eq_true rfl) rfl ?_
  intro X C E
  refine sw_aload_n (pc := 0) C d_Cd_restart_0 rfl rfl ?_
  refine sw_get (pc := 1) C inCr 0 rfl rfl 5 (by decide) t_70 rfl rfl d_Cd_restart_1 ?_
  refine sw_iconst (pc := 4) C (nI 1) d_Cd_restart_4 (by decide) ?_
  refine sw_callSP (pc := 5) C (c_fill l g z 48 f (nI 1) (by decide)) ss_Ar_fill t_64 [1] rfl rfl rfl rfl (Nat.le_of_ble_eq_true rfl) (Nat.le_of_ble_eq_true rfl) (Nat.le_of_ble_eq_true rfl) (Nat.le_of_ble_eq_true rfl) (Nat.le_of_ble_eq_true rfl) d_Cd_restart_5 (fun v w1 hp => ?_)
  obtain ⟨rfl, rfl⟩ := hp
  refine ⟨rfl, ?_⟩
  refine sw_ws (ws' := [(a, .inr (0, [f0, f1, f2, f3, f4, .ref z, .ref o, .int wd])), (z, .inl (g.2.1, 48, .inl (nF (fun _ => 1)))), (o, .inl (g.2.1, 48, .inl (h)))]) rfl ?_
  refine sw_aload_n (pc := 8) C d_Cd_restart_8 rfl rfl ?_
  refine sw_get (pc := 9) C inCr 0 rfl rfl 6 (by decide) t_71 rfl rfl d_Cd_restart_9 ?_
  refine sw_iconst (pc := 12) C (nI 1) d_Cd_restart_12 (by decide) ?_
  refine sw_callSP (pc := 13) C (c_fill l g o 48 h (nI 1) (by decide)) ss_Ar_fill t_64 [2] rfl rfl rfl rfl (Nat.le_of_ble_eq_true rfl) (Nat.le_of_ble_eq_true rfl) (Nat.le_of_ble_eq_true rfl) (Nat.le_of_ble_eq_true rfl) (Nat.le_of_ble_eq_true rfl) d_Cd_restart_13 (fun v w1 hp => ?_)
  obtain ⟨rfl, rfl⟩ := hp
  refine ⟨rfl, ?_⟩
  refine sw_ws (ws' := [(a, .inr (0, [f0, f1, f2, f3, f4, .ref z, .ref o, .int wd])), (z, .inl (g.2.1, 48, .inl (nF (fun _ => 1)))), (o, .inl (g.2.1, 48, .inl (nF (fun _ => 1))))]) rfl ?_
  refine sw_aload_n (pc := 16) C d_Cd_restart_16 rfl rfl ?_
  refine sw_ldc (pc := 17) C t_57 d_Cd_restart_17 ?_
  refine sw_topi (z := nI 65536) rfl ?_
  refine sw_put (pc := 19) C inCr 0 rfl rfl 7 (by decide) tyCr okCr nmCr t_72 rfl rfl (ty := .int) (by decide +kernel) rfl rfl (Nat.le_of_ble_eq_true rfl) d_Cd_restart_19 ?_
  exact sw_vret (pc := 22) C E rfl (Nat.le_of_ble_eq_true rfl) (Nat.le_of_ble_eq_true rfl) d_Cd_restart_22 ⟨rfl, rfl⟩
set_option maxRecDepth 100000 in
set_option maxHeartbeats 4000000 in
theorem c_Cw_shift (l : Launch) (g : Gl) (a z o r : Nat) (l0 : List Nat) (Z O : Nat → Nat) (W sc v : Nat) : Ct l g y_Cw_shift b_Cw_shift 1 none (rmD 0) [.ref a] (wKw g a z o r l0 ((Z, O, W, sc), v)) (fun u w => u = none ∧ w = wKw g a z o r l0 ((Z, O, W, sc + 1), v * 2)) := by
  refine ct_of [some (.ref a)] (by decide) (Nat.le_of_ble_eq_true rfl) rfl ?_
  intro X C E
  refine sw_aload_n (pc := 0) C d_Cw_shift_0 rfl rfl ?_
  refine sw_dup (pc := 1) C d_Cw_shift_1 rfl ?_
  refine sw_get (pc := 2) C inCw 0 rfl rfl 2 (by decide) t_69 rfl rfl d_Cw_shift_2 ?_
  refine sw_topi (z := nI sc) rfl ?_
  refine sw_iconst (pc := 5) C (nI 1) d_Cw_shift_5 (by decide) ?_
  refine sw_iadd (pc := 6) C d_Cw_shift_6 ?_
  refine sw_topi (z := nI (sc + 1)) (nI_add _ _) ?_
  refine sw_put (pc := 7) C inCw 0 rfl rfl 2 (by decide) tyCw okCw nmCw t_69 rfl rfl (ty := .int) (by decide +kernel) rfl rfl (Nat.le_of_ble_eq_true rfl) d_Cw_shift_7 ?_
  refine sw_ws (ws' := wKw g a z o r l0 ((Z, O, W, sc + 1), v * 2)) (by unfold wKw; dsimp only; rw [show rowW l0 (v * 2) (sc + 1) = rowW l0 v sc from by have := rowW_scale l0 v sc 1; simpa using this]; rfl) ?_
  exact sw_vret (pc := 10) C E rfl (Nat.le_of_ble_eq_true rfl) (Nat.le_of_ble_eq_true rfl) d_Cw_shift_10 ⟨rfl, rfl⟩
set_option maxRecDepth 100000 in
set_option maxHeartbeats 4000000 in
theorem c_Cw_size (l : Launch) (g : Gl) (a z o r : Nat) (l0 : List Nat) (Z O : Nat → Nat) (W sc v : Nat) (hs : sc < 2 ^ 20) : Ct l g y_Cw_size b_Cw_size 1 (some .int) (rmD 0) [.ref a] (wKw g a z o r l0 ((Z, O, W, sc), v)) (fun u w => u = some (.int (nI ((16 + sc + 7) / 8))) ∧ w = wKw g a z o r l0 ((Z, O, W, sc), v)) := by
  refine ct_of [some (.ref a)] (by decide) (Nat.le_of_ble_eq_true rfl) rfl ?_
  intro X C E
  refine sw_bipush (pc := 0) C (nI 16) d_Cw_size_0 (by decide) ?_
  refine sw_aload_n (pc := 2) C d_Cw_size_2 rfl rfl ?_
  refine sw_get (pc := 3) C inCw 0 rfl rfl 2 (by decide) t_69 rfl rfl d_Cw_size_3 ?_
  refine sw_topi (z := nI sc) rfl ?_
  refine sw_iadd (pc := 6) C d_Cw_size_6 ?_
  refine sw_topi (z := nI (16 + sc)) (nI_add _ _) ?_
  refine sw_bipush (pc := 7) C (nI 7) d_Cw_size_7 (by decide) ?_
  refine sw_iadd (pc := 9) C d_Cw_size_9 ?_
  refine sw_topi (z := nI ((16 + sc) + 7)) (nI_add _ _) ?_
  refine sw_bipush (pc := 10) C (nI 8) d_Cw_size_10 (by decide) ?_
  refine sw_idiv (pc := 12) C d_Cw_size_12 (by decide) ?_
  refine sw_topi (z := nI (((16 + sc) + 7) / 8)) (pk_div (by omega) (by omega) (by omega)) ?_
  exact sw_iret (pc := 13) C E rfl (Nat.le_of_ble_eq_true rfl) (Nat.le_of_ble_eq_true rfl) d_Cw_size_13 ⟨rfl, rfl⟩
set_option maxRecDepth 100000 in
set_option maxHeartbeats 4000000 in
theorem c_Cw_begin (l : Launch) (g : Gl) (a z o r r0 : Nat) (l0 : List Nat) (wd st0 sc0 : Int32) (f h : Nat → Int32) : Ct l g y_Cw_begin b_Cw_begin 3 none (rmD 2) [.ref a, .ref r, .int (nI l0.length)] ([(a, .inr (1, [.ref r0, .int st0, .int sc0, .ref z, .ref o, .int wd])), (z, .inl (g.2.1, 48, .inl f)), (o, .inl (g.2.1, 48, .inl h)), (r, .inl (g.2.1, 1200, .inl (rowOf l0)))]) (fun u w => u = none ∧ w = wKw g a z o r l0 (csInit, 0)) := by
  refine ct_of [some (.ref a), some (.ref r), some (.int (nI l0.length))] (by decide) (Nat.le_of_ble_eq_true rfl) rfl ?_
  intro X C E
  refine sw_aload_n (pc := 0) C d_Cw_begin_0 rfl rfl ?_
  refine sw_callUP (pc := 1) C (c_restart_w l g a z o (.ref r0) (.int st0) (.int sc0) wd f h) su_Cw_Cw_restart t_346 rfl rfl rfl rfl [0, 1, 2] rfl rfl rfl rfl (Nat.le_of_ble_eq_true rfl) (Nat.le_of_ble_eq_true rfl) (Nat.le_of_ble_eq_true rfl) (Nat.le_of_ble_eq_true rfl) (Nat.le_of_ble_eq_true rfl) d_Cw_begin_1 (fun v w1 hp => ?_)
  obtain ⟨rfl, rfl⟩ := hp
  refine ⟨rfl, ?_⟩
  refine sw_aload_n (pc := 4) C d_Cw_begin_4 rfl rfl ?_
  refine sw_aload_n (pc := 5) C d_Cw_begin_5 rfl rfl ?_
  refine sw_put (pc := 6) C inCw 0 rfl rfl 0 (by decide) tyCw okCw nmCw t_67 rfl rfl (ty := (.array .int)) (by decide +kernel) rfl rfl (Nat.le_of_ble_eq_true rfl) d_Cw_begin_6 ?_
  refine sw_aload_n (pc := 9) C d_Cw_begin_9 rfl rfl ?_
  refine sw_iload_n (pc := 10) C d_Cw_begin_10 rfl rfl ?_
  refine sw_put (pc := 11) C inCw 0 rfl rfl 1 (by decide) tyCw okCw nmCw t_68 rfl rfl (ty := .int) (by decide +kernel) rfl rfl (Nat.le_of_ble_eq_true rfl) d_Cw_begin_11 ?_
  refine sw_aload_n (pc := 14) C d_Cw_begin_14 rfl rfl ?_
  refine sw_iconst (pc := 15) C (nI 0) d_Cw_begin_15 (by decide) ?_
  refine sw_put (pc := 16) C inCw 0 rfl rfl 2 (by decide) tyCw okCw nmCw t_69 rfl rfl (ty := .int) (by decide +kernel) rfl rfl (Nat.le_of_ble_eq_true rfl) d_Cw_begin_16 ?_
  refine sw_ws (ws' := wKw g a z o r l0 (csInit, 0)) (by unfold wKw csInit; dsimp only; rw [rowW_0]; rfl) ?_
  exact sw_vret (pc := 19) C E rfl (Nat.le_of_ble_eq_true rfl) (Nat.le_of_ble_eq_true rfl) d_Cw_begin_19 ⟨rfl, rfl⟩
theorem rdP_step {fr en p : Nat} (h : fr + rdP fr en p / 8 < en) : rdP fr en (p + 1) = rdP fr en p + 1 ∧ rdP fr en p = p ∧ p < 8 * (en - fr) := by
  unfold rdP at *
  split at h <;> split <;> omega
theorem rdP_stay {fr en p : Nat} (hf : fr ≤ en) (h : en ≤ fr + rdP fr en p / 8) : rdP fr en (p + 1) = rdP fr en p ∧ 8 * (en - fr) ≤ p := by
  unfold rdP at *
  split at h <;> split <;> omega
theorem dgt_in {l : List Nat} {fr en i : Nat} (h : i < 8 * (en - fr)) : dgt l fr en i = l.getD (fr + i / 8) 0 / 2 ^ (7 - i % 8) % 2 := by
  unfold dgt
  rw [if_pos h]
theorem dgt_out {l : List Nat} {fr en i : Nat} (h : 8 * (en - fr) ≤ i) : dgt l fr en i = 0 := by
  unfold dgt
  rw [if_neg (by omega)]
theorem shr_nI {n k : Nat} (hn : n < 2 ^ 31) (hk : k < 32) : nI n >>> (nI k &&& 31) = nI (n / 2 ^ k) := by
  refine pk_shrN hn _ k ?_
  have : ∀ k, k < 32 → ((nI k &&& 31).toBitVec.smod 32).toNat = k := by decide +kernel
  exact this k hk
theorem shl_nI {n k : Nat} (hk : k < 32) (hn : n * 2 ^ k < 2 ^ 32) : nI n <<< (nI k &&& 31) = nI (n * 2 ^ k) := by
  refine pk_shlN _ k ?_ hn
  have : ∀ k, k < 32 → ((nI k &&& 31).toBitVec.smod 32).toNat = k := by decide +kernel
  exact this k hk
set_option maxRecDepth 100000 in
set_option maxHeartbeats 4000000 in
theorem c_Cr_choose (l : Launch) (g : Gl) (a z o r : Nat) (l0 : List Nat) (fr en : Nat) (Z O : Nat → Nat) (W sc v : Nat) (s b : Nat) (hv : v < 2 ^ 30) (hs : s < 2 ^ 30) : Ct l g y_Cr_choose b_Cr_choose 3 (some .int) (rmD 0) [.ref a, .int (nI s), .int (nI b)] (wKr g a z o r l0 fr en ((Z, O, W, sc), v)) (fun u w => u = some (.int (nI (if v < s then 0 else 1))) ∧ w = wKr g a z o r l0 fr en ((Z, O, W, sc), v - (if v < s then 0 else s))) := by
  refine ct_of [some (.ref a), some (.int (nI s)), some (.int (nI b))] (by decide) (Nat.le_of_ble_eq_true rfl) rfl ?_
  intro X C E
  refine sw_aload_n (pc := 0) C d_Cr_choose_0 rfl rfl ?_
  refine sw_get (pc := 1) C inCr 0 rfl rfl 4 (by decide) t_106 rfl rfl d_Cr_choose_1 ?_
  refine sw_topi (z := nI v) rfl ?_
  refine sw_iload_n (pc := 4) C d_Cr_choose_4 rfl rfl ?_
  refine sw_icmp_geN (pc := 5) C 10 (by omega) (by omega) d_Cr_choose_5 (by decide) (fun h1 => ?_) (fun h1 => ?_)
  · skip
    refine sw_aload_n (pc := 10) C d_Cr_choose_10 rfl rfl ?_
    refine sw_dup (pc := 11) C d_Cr_choose_11 rfl ?_
    refine sw_get (pc := 12) C inCr 0 rfl rfl 4 (by decide) t_106 rfl rfl d_Cr_choose_12 ?_
    refine sw_topi (z := nI v) rfl ?_
    refine sw_iload_n (pc := 15) C d_Cr_choose_15 rfl rfl ?_
    refine sw_isub (pc := 16) C d_Cr_choose_16 ?_
    refine sw_topi (z := nI (v - s)) (pk_sub (by omega)) ?_
    refine sw_put (pc := 17) C inCr 0 rfl rfl 4 (by decide) tyCr okCr nmCr t_106 rfl rfl (ty := .int) (by decide +kernel) rfl rfl (Nat.le_of_ble_eq_true rfl) d_Cr_choose_17 ?_
    refine sw_iconst (pc := 20) C (nI 1) d_Cr_choose_20 (by decide) ?_
    exact sw_iret (pc := 21) C E rfl (Nat.le_of_ble_eq_true rfl) (Nat.le_of_ble_eq_true rfl) d_Cr_choose_21 ⟨by rw [if_neg (by omega)], by rw [if_neg (by omega)]; rfl⟩
  refine sw_iconst (pc := 8) C (nI 0) d_Cr_choose_8 (by decide) ?_
  exact sw_iret (pc := 9) C E rfl (Nat.le_of_ble_eq_true rfl) (Nat.le_of_ble_eq_true rfl) d_Cr_choose_9 ⟨by rw [if_pos h1], by rw [if_pos h1]; rfl⟩
set_option maxRecDepth 100000 in
set_option maxHeartbeats 4000000 in
theorem c_Cr_shift (l : Launch) (g : Gl) (a z o r : Nat) (l0 : List Nat) (fr en : Nat) (Z O : Nat → Nat) (W v p : Nat) (hv : v < 2 ^ 29) (hen : en ≤ 1200) (hfe : fr ≤ en) (hb : ∀ k, l0.getD k 0 < 256) : Ct l g y_Cr_shift b_Cr_shift 1 none (rmD 0) [.ref a] (wKq g a z o r l0 fr en p Z O W v) (fun u w => u = none ∧ w = wKq g a z o r l0 fr en (p + 1) Z O W (2 * v + dgt l0 fr en p)) := by
  refine ct_of [some (.ref a)] (by decide) (Nat.le_of_ble_eq_true rfl) rfl ?_
  intro X C E
  have hrd := rdP_le fr en p
  refine sw_aload_n (pc := 0) C d_Cr_shift_0 rfl rfl ?_
  refine sw_dup (pc := 1) C d_Cr_shift_1 rfl ?_
  refine sw_get (pc := 2) C inCr 0 rfl rfl 4 (by decide) t_106 rfl rfl d_Cr_shift_2 ?_
  refine sw_topi (z := nI v) rfl ?_
  refine sw_iconst (pc := 5) C (nI 2) d_Cr_shift_5 (by decide) ?_
  refine sw_imul (pc := 6) C d_Cr_shift_6 ?_
  refine sw_topi (z := nI (v * 2)) (pk_mul _ _) ?_
  refine sw_put (pc := 7) C inCr 0 rfl rfl 4 (by decide) tyCr okCr nmCr t_106 rfl rfl (ty := .int) (by decide +kernel) rfl rfl (Nat.le_of_ble_eq_true rfl) d_Cr_shift_7 ?_
  refine sw_aload_n (pc := 10) C d_Cr_shift_10 rfl rfl ?_
  refine sw_get (pc := 11) C inCr 0 rfl rfl 1 (by decide) t_103 rfl rfl d_Cr_shift_11 ?_
  refine sw_topi (z := nI (fr + rdP fr en p / 8)) rfl ?_
  refine sw_aload_n (pc := 14) C d_Cr_shift_14 rfl rfl ?_
  refine sw_get (pc := 15) C inCr 0 rfl rfl 2 (by decide) t_104 rfl rfl d_Cr_shift_15 ?_
  refine sw_topi (z := nI en) rfl ?_
  refine sw_icmp_geN (pc := 18) C 83 (by omega) (by omega) d_Cr_shift_18 (by decide) (fun h1 => ?_) (fun h1 => ?_)
  · skip
    obtain ⟨e1, e2⟩ := rdP_stay hfe h1
    have e3 := dgt_out (l := l0) e2
    exact sw_vret (pc := 83) C E rfl (Nat.le_of_ble_eq_true rfl) (Nat.le_of_ble_eq_true rfl) d_Cr_shift_83 ⟨rfl, by unfold wKq; rw [e1, e3, Nat.add_zero, Nat.mul_comm 2 v]; rfl⟩
  obtain ⟨e1, e2, e3⟩ := rdP_step h1
  have e4 := dgt_in (l := l0) e3
  have hbk := hb (fr + rdP fr en p / 8)
  refine sw_aload_n (pc := 21) C d_Cr_shift_21 rfl rfl ?_
  refine sw_dup (pc := 22) C d_Cr_shift_22 rfl ?_
  refine sw_get (pc := 23) C inCr 0 rfl rfl 4 (by decide) t_106 rfl rfl d_Cr_shift_23 ?_
  refine sw_topi (z := nI (v * 2)) rfl ?_
  refine sw_aload_n (pc := 26) C d_Cr_shift_26 rfl rfl ?_
  refine sw_get (pc := 27) C inCr 0 rfl rfl 0 (by decide) t_102 rfl rfl d_Cr_shift_27 ?_
  refine sw_aload_n (pc := 30) C d_Cr_shift_30 rfl rfl ?_
  refine sw_get (pc := 31) C inCr 0 rfl rfl 1 (by decide) t_103 rfl rfl d_Cr_shift_31 ?_
  refine sw_topi (z := nI (fr + rdP fr en p / 8)) rfl ?_
  refine sw_ialdN (pc := 34) C 3 (fr + rdP fr en p / 8) rfl rfl (by omega) (by decide) d_Cr_shift_34 ?_
  refine sw_topi (z := nI (l0.getD (fr + rdP fr en p / 8) 0)) rfl ?_
  refine sw_bipush (pc := 35) C (nI 7) d_Cr_shift_35 (by decide) ?_
  refine sw_aload_n (pc := 37) C d_Cr_shift_37 rfl rfl ?_
  refine sw_get (pc := 38) C inCr 0 rfl rfl 3 (by decide) t_105 rfl rfl d_Cr_shift_38 ?_
  refine sw_topi (z := nI (rdP fr en p % 8)) rfl ?_
  refine sw_isub (pc := 41) C d_Cr_shift_41 ?_
  refine sw_topi (z := nI (7 - (rdP fr en p % 8))) (pk_sub (by omega)) ?_
  refine sw_ishr (pc := 42) C d_Cr_shift_42 ?_
  refine sw_topi (z := nI ((l0.getD (fr + rdP fr en p / 8) 0) / 2 ^ (7 - rdP fr en p % 8))) (shr_nI (by omega) (by omega)) ?_
  refine sw_iconst (pc := 43) C (nI 1) d_Cr_shift_43 (by decide) ?_
  refine sw_iand (pc := 44) C d_Cr_shift_44 ?_
  refine sw_topi (z := nI ((l0.getD (fr + rdP fr en p / 8) 0) / 2 ^ (7 - rdP fr en p % 8) % 2)) (and1 _) ?_
  refine sw_iadd (pc := 45) C d_Cr_shift_45 ?_
  refine sw_topi (z := nI ((v * 2) + (l0.getD (fr + rdP fr en p / 8) 0) / 2 ^ (7 - rdP fr en p % 8) % 2)) (nI_add _ _) ?_
  refine sw_put (pc := 46) C inCr 0 rfl rfl 4 (by decide) tyCr okCr nmCr t_106 rfl rfl (ty := .int) (by decide +kernel) rfl rfl (Nat.le_of_ble_eq_true rfl) d_Cr_shift_46 ?_
  refine sw_aload_n (pc := 49) C d_Cr_shift_49 rfl rfl ?_
  refine sw_aload_n (pc := 50) C d_Cr_shift_50 rfl rfl ?_
  refine sw_get (pc := 51) C inCr 0 rfl rfl 3 (by decide) t_105 rfl rfl d_Cr_shift_51 ?_
  refine sw_topi (z := nI (rdP fr en p % 8)) rfl ?_
  refine sw_iconst (pc := 54) C (nI 1) d_Cr_shift_54 (by decide) ?_
  refine sw_iadd (pc := 55) C d_Cr_shift_55 ?_
  refine sw_topi (z := nI ((rdP fr en p % 8) + 1)) (nI_add _ _) ?_
  refine sw_bipush (pc := 56) C (nI 8) d_Cr_shift_56 (by decide) ?_
  refine sw_irem (pc := 58) C d_Cr_shift_58 (by decide) ?_
  refine sw_topi (z := nI (((rdP fr en p % 8) + 1) % 8)) (pk_rem (by omega) (by omega) (by omega)) ?_
  refine sw_put (pc := 59) C inCr 0 rfl rfl 3 (by decide) tyCr okCr nmCr t_105 rfl rfl (ty := .int) (by decide +kernel) rfl rfl (Nat.le_of_ble_eq_true rfl) d_Cr_shift_59 ?_
  refine sw_aload_n (pc := 62) C d_Cr_shift_62 rfl rfl ?_
  refine sw_dup (pc := 63) C d_Cr_shift_63 rfl ?_
  refine sw_get (pc := 64) C inCr 0 rfl rfl 1 (by decide) t_103 rfl rfl d_Cr_shift_64 ?_
  refine sw_topi (z := nI (fr + rdP fr en p / 8)) rfl ?_
  refine sw_aload_n (pc := 67) C d_Cr_shift_67 rfl rfl ?_
  refine sw_get (pc := 68) C inCr 0 rfl rfl 3 (by decide) t_105 rfl rfl d_Cr_shift_68 ?_
  refine sw_topi (z := nI (((rdP fr en p % 8) + 1) % 8)) rfl ?_
  refine sw_if_neN (pc := 71) C 78 (by omega) d_Cr_shift_71 (by decide) (fun h2 => ?_) (fun h2 => ?_)
  · skip
    refine sw_iconst (pc := 78) C (nI 0) d_Cr_shift_78 (by decide) ?_
    refine sw_iadd (pc := 79) C d_Cr_shift_79 ?_
    refine sw_topi (z := nI ((fr + rdP fr en p / 8) + 0)) (nI_add _ _) ?_
    refine sw_put (pc := 80) C inCr 0 rfl rfl 1 (by decide) tyCr okCr nmCr t_103 rfl rfl (ty := .int) (by decide +kernel) rfl rfl (Nat.le_of_ble_eq_true rfl) d_Cr_shift_80 ?_
    rw [e2] at h2
    exact sw_vret (pc := 83) C E rfl (Nat.le_of_ble_eq_true rfl) (Nat.le_of_ble_eq_true rfl) d_Cr_shift_83 ⟨rfl, by unfold wKq; rw [e1, e4, Nat.mul_comm 2 v]; simp only [e2]; rw [show (p + 1) % 8 = (p % 8 + 1) % 8 by omega, show fr + (p + 1) / 8 = fr + p / 8 + 0 by omega]; rfl⟩
  refine sw_iconst (pc := 74) C (nI 1) d_Cr_shift_74 (by decide) ?_
  refine sw_goto (pc := 75) C 79 d_Cr_shift_75 (by decide) ?_
  refine sw_iadd (pc := 79) C d_Cr_shift_79 ?_
  refine sw_topi (z := nI ((fr + rdP fr en p / 8) + 1)) (nI_add _ _) ?_
  refine sw_put (pc := 80) C inCr 0 rfl rfl 1 (by decide) tyCr okCr nmCr t_103 rfl rfl (ty := .int) (by decide +kernel) rfl rfl (Nat.le_of_ble_eq_true rfl) d_Cr_shift_80 ?_
  rw [e2] at h2
  exact sw_vret (pc := 83) C E rfl (Nat.le_of_ble_eq_true rfl) (Nat.le_of_ble_eq_true rfl) d_Cr_shift_83 ⟨rfl, by unfold wKq; rw [e1, e4, Nat.mul_comm 2 v]; simp only [e2]; rw [show (p + 1) % 8 = (p % 8 + 1) % 8 by omega, show fr + (p + 1) / 8 = fr + p / 8 + 1 by omega]; rfl⟩
end
section
/-! a bit is written, a bit is read -/
theorem min1200r {n : Nat} (h : n ≤ 1200) : (if nI 1200 < nI n then nI 1200 else nI n) = nI n := by
  rw [if_neg (nI_nlt h (by decide))]
theorem and255 (m : Nat) : nI m &&& nI 255 = nI (m % 256) := by
  have h := pk_and (nI m) (m := nI 255) 8 rfl
  rw [h]
  congr 1
  show (BitVec.ofNat 32 m).toNat % 2 ^ 8 = m % 256
  rw [BitVec.toNat_ofNat]
  omega
set_option maxRecDepth 100000 in
set_option maxHeartbeats 4000000 in
theorem c_Cw_choose (l : Launch) (g : Gl) (a z o r : Nat) (l0 : List Nat) (Z O : Nat → Nat) (W sc v : Nat) (s b : Nat) (h1 : 1 ≤ l0.length) (hst : l0.length + sc / 8 + 2 < 1200) (hs : s ≤ 65536) (hb : b ≤ 1) : Ct l g y_Cw_choose b_Cw_choose 6 (some .int) (rmD 0) [.ref a, .int (nI s), .int (nI b)] (wKw g a z o r l0 ((Z, O, W, sc), v)) (fun u w => u = some (.int (nI b)) ∧ w = wKw g a z o r l0 ((Z, O, W, sc), v + (if b = 0 then 0 else s))) := by
  refine ct_of [some (.ref a), some (.int (nI s)), some (.int (nI b)), none, none, none] (by decide) (Nat.le_of_ble_eq_true rfl) rfl ?_
  intro X C E
  refine sw_aload_n (pc := 0) C d_Cw_choose_0 rfl rfl ?_
  refine sw_get (pc := 1) C inCw 0 rfl rfl 1 (by decide) t_68 rfl rfl d_Cw_choose_1 ?_
  refine sw_topi (z := nI l0.length) rfl ?_
  refine sw_aload_n (pc := 4) C d_Cw_choose_4 rfl rfl ?_
  refine sw_get (pc := 5) C inCw 0 rfl rfl 2 (by decide) t_69 rfl rfl d_Cw_choose_5 ?_
  refine sw_topi (z := nI sc) rfl ?_
  refine sw_bipush (pc := 8) C (nI 8) d_Cw_choose_8 (by decide) ?_
  refine sw_idiv (pc := 10) C d_Cw_choose_10 (by decide) ?_
  refine sw_topi (z := nI (sc / 8)) (pk_div (by omega) (by omega) (by omega)) ?_
  refine sw_iadd (pc := 11) C d_Cw_choose_11 ?_
  refine sw_topi (z := nI (l0.length + (sc / 8))) (nI_add _ _) ?_
  refine sw_iconst (pc := 12) C (nI 2) d_Cw_choose_12 (by decide) ?_
  refine sw_iadd (pc := 13) C d_Cw_choose_13 ?_
  refine sw_topi (z := nI ((l0.length + (sc / 8)) + 2)) (nI_add _ _) ?_
  refine sw_istore_n (pc := 14) C d_Cw_choose_14 rfl (by decide) rfl ?_
  refine sw_iload_n (pc := 15) C d_Cw_choose_15 rfl rfl ?_
  refine sw_iconst (pc := 16) C (nI 1) d_Cw_choose_16 (by decide) ?_
  refine sw_icmp_neN (pc := 17) C 98 (by omega) (by omega) d_Cw_choose_17 (by decide) (fun hb1 => ?_) (fun hb1 => ?_)
  · skip
    refine sw_iload_n (pc := 98) C d_Cw_choose_98 rfl rfl ?_
    exact sw_iret (pc := 99) C E rfl (Nat.le_of_ble_eq_true rfl) (Nat.le_of_ble_eq_true rfl) d_Cw_choose_99 ⟨rfl, by rw [if_pos (by omega), Nat.add_zero]⟩
  refine sw_iload_n (pc := 20) C d_Cw_choose_20 rfl rfl ?_
  refine sw_aload_n (pc := 21) C d_Cw_choose_21 rfl rfl ?_
  refine sw_get (pc := 22) C inCw 0 rfl rfl 0 (by decide) t_67 rfl rfl d_Cw_choose_22 ?_
  refine sw_alenI (pc := 25) C 3 rfl d_Cw_choose_25 ?_
  refine sw_icmp_geN (pc := 26) C 98 (by omega) (by omega) d_Cw_choose_26 (by decide) (fun h2 => ?_) (fun h2 => ?_)
  · skip
    omega
  have he : 2 ^ (8 - sc % 8) ≤ 2 ^ 8 := Nat.pow_le_pow_right (by decide) (by omega)
  have hse : s * 2 ^ (8 - sc % 8) ≤ 65536 * 2 ^ 8 := Nat.mul_le_mul hs he
  refine sw_iload_n (pc := 29) C d_Cw_choose_29 rfl rfl ?_
  refine sw_bipush (pc := 30) C (nI 8) d_Cw_choose_30 (by decide) ?_
  refine sw_aload_n (pc := 32) C d_Cw_choose_32 rfl rfl ?_
  refine sw_get (pc := 33) C inCw 0 rfl rfl 2 (by decide) t_69 rfl rfl d_Cw_choose_33 ?_
  refine sw_topi (z := nI sc) rfl ?_
  refine sw_bipush (pc := 36) C (nI 8) d_Cw_choose_36 (by decide) ?_
  refine sw_irem (pc := 38) C d_Cw_choose_38 (by decide) ?_
  refine sw_topi (z := nI (sc % 8)) (pk_rem (by omega) (by omega) (by omega)) ?_
  refine sw_isub (pc := 39) C d_Cw_choose_39 ?_
  refine sw_topi (z := nI (8 - (sc % 8))) (pk_sub (by omega)) ?_
  refine sw_ishl (pc := 40) C d_Cw_choose_40 ?_
  refine sw_topi (z := nI (s * 2 ^ (8 - sc % 8))) (shl_nI (by omega) (by omega)) ?_
  refine sw_istore (pc := 41) C d_Cw_choose_41 (by decide) rfl ?_
  refine sw_iload_n (pc := 43) C d_Cw_choose_43 rfl rfl ?_
  refine sw_istore (pc := 44) C d_Cw_choose_44 (by decide) rfl ?_
  have key : ∀ (j cy : Nat), j ≤ sc / 8 + 3 → cy = FF (v + s) sc (8 * j) - FF v sc (8 * j) → cy ≤ 65536 * 2 ^ 8 → SW X g 6 0 0 [(a, .inr (1, [.ref r, .int (nI l0.length), .int (nI sc), .ref z, .ref o, .int (nI W)])), (z, .inl (g.2.1, 48, .inl (nF Z))), (o, .inl (g.2.1, 48, .inl (nF O))), (r, .inl (g.2.1, 1200, .inl (rowM l0 v s sc j)))] 46 [some (.ref a), some (.int (nI s)), some (.int (nI b)), some (.int (nI (l0.length + sc / 8 + 2))), some (.int (nI cy)), some (.int (nI (l0.length + j - 1)))] [] := by
    intro j
    induction j with
    | zero =>
      intro cy hj hcy hcb
      refine sw_iload (pc := 46) C d_Cw_choose_46 rfl ?_
      refine sw_aload_n (pc := 48) C d_Cw_choose_48 rfl rfl ?_
      refine sw_get (pc := 49) C inCw 0 rfl rfl 1 (by decide) t_68 rfl rfl d_Cw_choose_49 ?_
      refine sw_topi (z := nI l0.length) rfl ?_
      refine sw_icmp_ltN (pc := 52) C 98 (by omega) (by omega) d_Cw_choose_52 (by decide) (fun h3 => ?_) (fun h3 => ?_)
      · skip
        refine sw_iload_n (pc := 98) C d_Cw_choose_98 rfl rfl ?_
        exact sw_iret (pc := 99) C E rfl (Nat.le_of_ble_eq_true rfl) (Nat.le_of_ble_eq_true rfl) d_Cw_choose_99 ⟨rfl, by rw [rowM_0, if_neg (by omega)]; rfl⟩
      omega
    | succ j ih =>
      intro cy hj hcy hcb
      have m1 := FF_mono (show v ≤ v + s by omega) sc (8 * j + 8)
      have q1 := FF_256 (v + s) sc (8 * j)
      have q2 := FF_256 v sc (8 * j)
      rw [show 8 * (j + 1) = 8 * j + 8 by omega] at hcy
      have hlt := cbyte_lt v sc j
      refine sw_iload (pc := 46) C d_Cw_choose_46 rfl ?_
      refine sw_aload_n (pc := 48) C d_Cw_choose_48 rfl rfl ?_
      refine sw_get (pc := 49) C inCw 0 rfl rfl 1 (by decide) t_68 rfl rfl d_Cw_choose_49 ?_
      refine sw_topi (z := nI l0.length) rfl ?_
      refine sw_icmp_ltN (pc := 52) C 98 (by omega) (by omega) d_Cw_choose_52 (by decide) (fun h3 => ?_) (fun h3 => ?_)
      · skip
        omega
      refine sw_iload (pc := 55) C d_Cw_choose_55 rfl ?_
      refine sw_if_leN (pc := 57) C 98 (by omega) d_Cw_choose_57 (by decide) (fun h4 => ?_) (fun h4 => ?_)
      · skip
        have hst2 : rowM l0 v s sc (j + 1) = rowM l0 v s sc 0 := rowM_stop (by rw [show 8 * (j + 1) = 8 * j + 8 by omega]; omega)
        rw [hst2]
        refine sw_iload_n (pc := 98) C d_Cw_choose_98 rfl rfl ?_
        exact sw_iret (pc := 99) C E rfl (Nat.le_of_ble_eq_true rfl) (Nat.le_of_ble_eq_true rfl) d_Cw_choose_99 ⟨rfl, by rw [rowM_0, if_neg (by omega)]; rfl⟩
      have eb : cbyte v sc j = FF v sc (8 * j + 8) % 256 := rfl
      have eb2 : cbyte (v + s) sc j = FF (v + s) sc (8 * j + 8) % 256 := rfl
      refine sw_iload (pc := 60) C d_Cw_choose_60 rfl ?_
      refine sw_aload_n (pc := 62) C d_Cw_choose_62 rfl rfl ?_
      refine sw_get (pc := 63) C inCw 0 rfl rfl 0 (by decide) t_67 rfl rfl d_Cw_choose_63 ?_
      refine sw_iload (pc := 66) C d_Cw_choose_66 rfl ?_
      refine sw_ialdN (pc := 68) C 3 (l0.length + j) rfl (by congr 1) (by omega) (by decide) d_Cw_choose_68 ?_
      refine sw_topi (z := nI (cbyte v sc j)) (rowM_at l0 v s sc j) ?_
      refine sw_iadd (pc := 69) C d_Cw_choose_69 ?_
      refine sw_topi (z := nI (cy + (cbyte v sc j))) (nI_add _ _) ?_
      refine sw_istore (pc := 70) C d_Cw_choose_70 (by decide) rfl ?_
      refine sw_aload_n (pc := 72) C d_Cw_choose_72 rfl rfl ?_
      refine sw_get (pc := 73) C inCw 0 rfl rfl 0 (by decide) t_67 rfl rfl d_Cw_choose_73 ?_
      refine sw_iload (pc := 76) C d_Cw_choose_76 rfl ?_
      refine sw_iload (pc := 78) C d_Cw_choose_78 rfl ?_
      refine sw_sipush (pc := 80) C (nI 255) d_Cw_choose_80 (by decide) ?_
      refine sw_iand (pc := 83) C d_Cw_choose_83 ?_
      refine sw_topi (z := nI (cbyte (v + s) sc j)) (by rw [and255]; congr 1; omega) ?_
      refine sw_iastN (pc := 84) C 3 (l0.length + j) rfl (by congr 1) (by omega) (by decide) d_Cw_choose_84 ?_
      refine sw_ws (ws' := [(a, .inr (1, [.ref r, .int (nI l0.length), .int (nI sc), .ref z, .ref o, .int (nI W)])), (z, .inl (g.2.1, 48, .inl (nF Z))), (o, .inl (g.2.1, 48, .inl (nF O))), (r, .inl (g.2.1, 1200, .inl (rowM l0 v s sc j)))]) (by rw [← rowM_up l0 v s sc j]; rfl) ?_
      refine sw_iload (pc := 85) C d_Cw_choose_85 rfl ?_
      refine sw_bipush (pc := 87) C (nI 8) d_Cw_choose_87 (by decide) ?_
      refine sw_ishr (pc := 89) C d_Cw_choose_89 ?_
      refine sw_topi (z := nI (FF (v + s) sc (8 * j) - FF v sc (8 * j))) (by rw [shr_nI (by omega) (by decide)]; congr 1; omega) ?_
      refine sw_istore (pc := 90) C d_Cw_choose_90 (by decide) rfl ?_
      refine sw_idecN (pc := 92) C d_Cw_choose_92 rfl (by decide) (by omega) rfl ?_
      refine sw_goto (pc := 95) C 46 d_Cw_choose_95 (by decide) ?_
      rw [show l0.length + (j + 1) - 1 - 1 = l0.length + j - 1 by omega]
      exact ih (FF (v + s) sc (8 * j) - FF v sc (8 * j)) (by omega) rfl (by omega)
  have k0 := key (sc / 8 + 3) (s * 2 ^ (8 - sc % 8)) (Nat.le_refl _) (by rw [FF_add (by omega), show 8 * (sc / 8 + 3) - (16 + sc) = 8 - sc % 8 by omega]; omega) hse
  rw [rowM_start] at k0
  exact k0
set_option maxRecDepth 100000 in
set_option maxHeartbeats 4000000 in
theorem c_Cr_begin (l : Launch) (g : Gl) (a z o r r0 : Nat) (l0 : List Nat) (fr en : Nat) (wd i1 i2 i3 i4 : Int32) (f h : Nat → Int32) (hfe : fr ≤ en) (hen : en ≤ 1200) (hb : ∀ k, l0.getD k 0 < 256) : Ct l g y_Cr_begin b_Cr_begin 5 none (rmD 2) [.ref a, .ref r, .int (nI fr), .int (nI en)] ([(a, .inr (0, [.ref r0, .int i1, .int i2, .int i3, .int i4, .ref z, .ref o, .int wd])), (z, .inl (g.2.1, 48, .inl f)), (o, .inl (g.2.1, 48, .inl h)), (r, .inl (g.2.1, 1200, .inl (rowOf l0)))]) (fun u w => u = none ∧ w = wKr g a z o r l0 fr en (kInit (some (dgt l0 fr en)))) := by
  refine ct_of [some (.ref a), some (.ref r), some (.int (nI fr)), some (.int (nI en)), none] (by decide) (Nat.le_of_ble_eq_true rfl) rfl ?_
  intro X C E
  refine sw_aload_n (pc := 0) C d_Cr_begin_0 rfl rfl ?_
  refine sw_callUP (pc := 1) C (c_restart_r l g a z o (.ref r0) (.int i1) (.int i2) (.int i3) (.int i4) wd f h) su_Cr_Cr_restart t_494 rfl rfl rfl rfl [0, 1, 2] rfl rfl rfl rfl (Nat.le_of_ble_eq_true rfl) (Nat.le_of_ble_eq_true rfl) (Nat.le_of_ble_eq_true rfl) (Nat.le_of_ble_eq_true rfl) (Nat.le_of_ble_eq_true rfl) d_Cr_begin_1 (fun v w1 hp => ?_)
  obtain ⟨rfl, rfl⟩ := hp
  refine ⟨rfl, ?_⟩
  refine sw_aload_n (pc := 4) C d_Cr_begin_4 rfl rfl ?_
  refine sw_aload_n (pc := 5) C d_Cr_begin_5 rfl rfl ?_
  refine sw_put (pc := 6) C inCr 0 rfl rfl 0 (by decide) tyCr okCr nmCr t_102 rfl rfl (ty := (.array .int)) (by decide +kernel) rfl rfl (Nat.le_of_ble_eq_true rfl) d_Cr_begin_6 ?_
  refine sw_aload_n (pc := 9) C d_Cr_begin_9 rfl rfl ?_
  refine sw_iload_n (pc := 10) C d_Cr_begin_10 rfl rfl ?_
  refine sw_put (pc := 11) C inCr 0 rfl rfl 1 (by decide) tyCr okCr nmCr t_103 rfl rfl (ty := .int) (by decide +kernel) rfl rfl (Nat.le_of_ble_eq_true rfl) d_Cr_begin_11 ?_
  refine sw_aload_n (pc := 14) C d_Cr_begin_14 rfl rfl ?_
  refine sw_iload_n (pc := 15) C d_Cr_begin_15 rfl rfl ?_
  refine sw_aload_n (pc := 16) C d_Cr_begin_16 rfl rfl ?_
  refine sw_alenI (pc := 17) C 3 rfl d_Cr_begin_17 ?_
  refine sw_mmin (pc := 18) C t_497 t_406 t_13 t_407 (Nat.le_of_ble_eq_true rfl) (Nat.le_of_ble_eq_true rfl) (Nat.le_of_ble_eq_true rfl) (Nat.le_of_ble_eq_true rfl) d_Cr_begin_18 ?_
  refine sw_topi (z := nI en) (min1200r hen) ?_
  refine sw_put (pc := 21) C inCr 0 rfl rfl 2 (by decide) tyCr okCr nmCr t_104 rfl rfl (ty := .int) (by decide +kernel) rfl rfl (Nat.le_of_ble_eq_true rfl) d_Cr_begin_21 ?_
  refine sw_aload_n (pc := 24) C d_Cr_begin_24 rfl rfl ?_
  refine sw_iconst (pc := 25) C (nI 0) d_Cr_begin_25 (by decide) ?_
  refine sw_put (pc := 26) C inCr 0 rfl rfl 3 (by decide) tyCr okCr nmCr t_105 rfl rfl (ty := .int) (by decide +kernel) rfl rfl (Nat.le_of_ble_eq_true rfl) d_Cr_begin_26 ?_
  refine sw_aload_n (pc := 29) C d_Cr_begin_29 rfl rfl ?_
  refine sw_iconst (pc := 30) C (nI 0) d_Cr_begin_30 (by decide) ?_
  refine sw_put (pc := 31) C inCr 0 rfl rfl 4 (by decide) tyCr okCr nmCr t_106 rfl rfl (ty := .int) (by decide +kernel) rfl rfl (Nat.le_of_ble_eq_true rfl) d_Cr_begin_31 ?_
  refine sw_iconst (pc := 34) C (nI 0) d_Cr_begin_34 (by decide) ?_
  refine sw_istore (pc := 35) C d_Cr_begin_35 (by decide) rfl ?_
  have key : ∀ (n i v : Nat), i + n = 16 → v < 2 ^ i → shin (dgt l0 fr en) i n v = shin (dgt l0 fr en) 0 16 0 → SW X g 5 0 0 (wKq g a z o r l0 fr en i (fun _ => 1) (fun _ => 1) 65536 v) 37 [some (.ref a), some (.ref r), some (.int (nI fr)), some (.int (nI en)), some (.int (nI i))] [] := by
    intro n
    induction n with
    | zero =>
      intro i v hi hv hs
      refine sw_iload (pc := 37) C d_Cr_begin_37 rfl ?_
      refine sw_bipush (pc := 39) C (nI 16) d_Cr_begin_39 (by decide) ?_
      refine sw_icmp_geN (pc := 41) C 54 (by omega) (by omega) d_Cr_begin_41 (by decide) (fun h3 => ?_) (fun h3 => ?_)
      · skip
        have e16 : i = 16 := by omega
        subst e16
        have e : v = shin (dgt l0 fr en) 0 16 0 := hs
        exact sw_vret (pc := 54) C E rfl (Nat.le_of_ble_eq_true rfl) (Nat.le_of_ble_eq_true rfl) d_Cr_begin_54 ⟨rfl, by rw [e]; rfl⟩
      omega
    | succ n ih =>
      intro i v hi hv hs
      have hp : 2 ^ i ≤ 2 ^ 16 := Nat.pow_le_pow_right (by decide) (by omega)
      have hd := dgt_le l0 fr en i
      refine sw_iload (pc := 37) C d_Cr_begin_37 rfl ?_
      refine sw_bipush (pc := 39) C (nI 16) d_Cr_begin_39 (by decide) ?_
      refine sw_icmp_geN (pc := 41) C 54 (by omega) (by omega) d_Cr_begin_41 (by decide) (fun h3 => ?_) (fun h3 => ?_)
      · skip
        omega
      refine sw_aload_n (pc := 44) C d_Cr_begin_44 rfl rfl ?_
      refine sw_callVP (pc := 45) C (c_Cr_shift l g a z o r l0 fr en (fun _ => 1) (fun _ => 1) 65536 v i (by omega) hen hfe hb) sv_Cr_shift t_498 rfl rfl rfl [0, 1, 2, 3] rfl rfl rfl rfl (Nat.le_of_ble_eq_true rfl) (Nat.le_of_ble_eq_true rfl) (Nat.le_of_ble_eq_true rfl) (Nat.le_of_ble_eq_true rfl) (Nat.le_of_ble_eq_true rfl) d_Cr_begin_45 (fun v w1 hp => ?_)
      obtain ⟨rfl, rfl⟩ := hp
      refine ⟨rfl, ?_⟩
      refine sw_ws (ws' := wKq g a z o r l0 fr en (i + 1) (fun _ => 1) (fun _ => 1) 65536 (2 * v + dgt l0 fr en i)) rfl ?_
      refine sw_iincN (pc := 48) C 1 d_Cr_begin_48 rfl (by decide) (by decide) rfl ?_
      refine sw_goto (pc := 51) C 37 d_Cr_begin_51 (by decide) ?_
      exact ih (i + 1) (2 * v + dgt l0 fr en i) (by omega) (by rw [Nat.pow_succ]; omega) hs
  refine sw_ws (ws' := wKq g a z o r l0 fr en 0 (fun _ => 1) (fun _ => 1) 65536 0) (by unfold wKq; rw [show rdP fr en 0 = 0 from by unfold rdP; split <;> omega]; rfl) ?_
  exact key 16 0 0 (by omega) (by decide) rfl
set_option maxRecDepth 100000 in
set_option maxHeartbeats 4000000 in
theorem c_code_w (l : Launch) (g : Gl) (a z o r : Nat) (l0 : List Nat) (Z O : Nat → Nat) (W sc v : Nat) (c b : Nat) (hK : csOK (Z, O, W, sc)) (hc : c < 48) (hb : b ≤ 1) (h1 : 1 ≤ l0.length) (hst : l0.length + sc / 8 + 2 < 1200) : Ct l g y_Cd_code b_Cd_code 6 (some .int) (rmD 1) [.ref a, .int (nI c), .int (nI b)] (wKw g a z o r l0 ((Z, O, W, sc), v)) (fun u w => u = some (.int (nI (kBit none ((Z, O, W, sc), v) c b))) ∧ w = wKw g a z o r l0 (kStep none ((Z, O, W, sc), v) c b)) := by
  refine ct_of [some (.ref a), some (.int (nI c)), some (.int (nI b)), none, none, none] (by decide) (Nat.le_of_ble_eq_true rfl) rfl ?_
  intro X C E
  obtain ⟨hz1, ho1, hzo⟩ := hK.1 c hc
  dsimp only at hz1 ho1 hzo
  have hW1 : 32768 < W := hK.2.1
  have hW2 : W ≤ 65536 := hK.2.2
  have hWZ : W * Z c ≤ 65536 * 31 := Nat.mul_le_mul hW2 (by omega)
  have hsp := csSplit_bd hK hc
  dsimp only at hsp
  refine sw_aload_n (pc := 0) C d_Cd_code_0 rfl rfl ?_
  refine sw_get (pc := 1) C inCw 0 rfl rfl 5 (by decide) t_72 rfl rfl d_Cd_code_1 ?_
  refine sw_topi (z := nI W) rfl ?_
  refine sw_aload_n (pc := 4) C d_Cd_code_4 rfl rfl ?_
  refine sw_get (pc := 5) C inCw 0 rfl rfl 3 (by decide) t_70 rfl rfl d_Cd_code_5 ?_
  refine sw_iload_n (pc := 8) C d_Cd_code_8 rfl rfl ?_
  refine sw_ialdN (pc := 9) C 1 c rfl rfl (by omega) (by decide) d_Cd_code_9 ?_
  refine sw_topi (z := nI (Z c)) rfl ?_
  refine sw_imul (pc := 10) C d_Cd_code_10 ?_
  refine sw_topi (z := nI (W * (Z c))) (pk_mul _ _) ?_
  refine sw_aload_n (pc := 11) C d_Cd_code_11 rfl rfl ?_
  refine sw_get (pc := 12) C inCw 0 rfl rfl 3 (by decide) t_70 rfl rfl d_Cd_code_12 ?_
  refine sw_iload_n (pc := 15) C d_Cd_code_15 rfl rfl ?_
  refine sw_ialdN (pc := 16) C 1 c rfl rfl (by omega) (by decide) d_Cd_code_16 ?_
  refine sw_topi (z := nI (Z c)) rfl ?_
  refine sw_aload_n (pc := 17) C d_Cd_code_17 rfl rfl ?_
  refine sw_get (pc := 18) C inCw 0 rfl rfl 4 (by decide) t_71 rfl rfl d_Cd_code_18 ?_
  refine sw_iload_n (pc := 21) C d_Cd_code_21 rfl rfl ?_
  refine sw_ialdN (pc := 22) C 2 c rfl rfl (by omega) (by decide) d_Cd_code_22 ?_
  refine sw_topi (z := nI (O c)) rfl ?_
  refine sw_iadd (pc := 23) C d_Cd_code_23 ?_
  refine sw_topi (z := nI ((Z c) + (O c))) (nI_add _ _) ?_
  refine sw_idiv (pc := 24) C d_Cd_code_24 (nI_ne0 (by omega) (by omega)) ?_
  refine sw_topi (z := nI ((W * (Z c)) / ((Z c) + (O c)))) (pk_div (by omega) (by omega) (by omega)) ?_
  refine sw_topi (z := nI (csSplit (Z, O, W, sc) c)) rfl ?_
  refine sw_istore_n (pc := 25) C d_Cd_code_25 rfl (by decide) rfl ?_
  refine sw_aload_n (pc := 26) C d_Cd_code_26 rfl rfl ?_
  refine sw_iload_n (pc := 27) C d_Cd_code_27 rfl rfl ?_
  refine sw_iload_n (pc := 28) C d_Cd_code_28 rfl rfl ?_
  refine sw_callAP (pc := 29) C (c_Cw_choose l g a z o r l0 Z O W sc v (csSplit (Z, O, W, sc) c) b h1 hst (by omega) hb) su_Cw_Cd_choose t_374 q_375 rfl rfl rfl [0, 1, 2, 3] rfl rfl rfl rfl (Nat.le_of_ble_eq_true rfl) (Nat.le_of_ble_eq_true rfl) (Nat.le_of_ble_eq_true rfl) (Nat.le_of_ble_eq_true rfl) (Nat.le_of_ble_eq_true rfl) d_Cd_code_29 (fun v w1 hp => ?_)
  obtain ⟨rfl, rfl⟩ := hp
  refine ⟨rfl, ?_⟩
  refine sw_ws (ws' := wKw g a z o r l0 ((Z, O, W, sc), (v + (if b = 0 then 0 else (csSplit (Z, O, W, sc) c))))) rfl ?_
  have loop : ∀ (Z2 O2 : Nat → Nat) (f i : Nat) (Wi sci vi : Nat), i + f = 16 → Wi ≤ 65536 → wKw g a z o r l0 ((Z2, O2, Wi * 2 ^ nsh f Wi, sci + nsh f Wi), vi * 2 ^ nsh f Wi) = wKw g a z o r l0 (kStep none ((Z, O, W, sc), v) c b) → SW X g 6 0 0 (wKw g a z o r l0 ((Z2, O2, Wi, sci), vi)) 63 [some (.ref a), some (.int (nI c)), some (.int (nI b)), some (.int (nI (csSplit (Z, O, W, sc) c))), some (.int (nI b)), some (.int (nI i))] [] := by
    intro Z2 O2 f
    induction f with
    | zero =>
      intro i Wi sci vi hi hWi he
      refine sw_iload (pc := 63) C d_Cd_code_63 rfl ?_
      refine sw_bipush (pc := 65) C (nI 16) d_Cd_code_65 (by decide) ?_
      refine sw_icmp_geN (pc := 67) C 99 (by omega) (by omega) d_Cd_code_67 (by decide) (fun h3 => ?_) (fun h3 => ?_)
      · skip
        refine sw_iload (pc := 99) C d_Cd_code_99 rfl ?_
        exact sw_iret (pc := 101) C E rfl (Nat.le_of_ble_eq_true rfl) (Nat.le_of_ble_eq_true rfl) d_Cd_code_101 ⟨rfl, by rw [← he]; simp [nsh, shin]⟩
      omega
    | succ f ih =>
      intro i Wi sci vi hi hWi he
      refine sw_iload (pc := 63) C d_Cd_code_63 rfl ?_
      refine sw_bipush (pc := 65) C (nI 16) d_Cd_code_65 (by decide) ?_
      refine sw_icmp_geN (pc := 67) C 99 (by omega) (by omega) d_Cd_code_67 (by decide) (fun h3 => ?_) (fun h3 => ?_)
      · skip
        omega
      refine sw_aload_n (pc := 70) C d_Cd_code_70 rfl rfl ?_
      refine sw_get (pc := 71) C inCw 0 rfl rfl 5 (by decide) t_72 rfl rfl d_Cd_code_71 ?_
      refine sw_topi (z := nI Wi) rfl ?_
      refine sw_ldc (pc := 74) C t_387 d_Cd_code_74 ?_
      refine sw_topi (z := nI 32768) rfl ?_
      refine sw_icmp_gtN (pc := 76) C 99 (by omega) (by omega) d_Cd_code_76 (by decide) (fun h4 => ?_) (fun h4 => ?_)
      · skip
        refine sw_iload (pc := 99) C d_Cd_code_99 rfl ?_
        exact sw_iret (pc := 101) C E rfl (Nat.le_of_ble_eq_true rfl) (Nat.le_of_ble_eq_true rfl) d_Cd_code_101 ⟨rfl, by rw [← he]; rw [show nsh (f + 1) Wi = 0 from by unfold nsh; rw [if_neg (by omega)]]; simp [shin]⟩
      refine sw_aload_n (pc := 79) C d_Cd_code_79 rfl rfl ?_
      refine sw_dup (pc := 80) C d_Cd_code_80 rfl ?_
      refine sw_get (pc := 81) C inCw 0 rfl rfl 5 (by decide) t_72 rfl rfl d_Cd_code_81 ?_
      refine sw_topi (z := nI Wi) rfl ?_
      refine sw_iconst (pc := 84) C (nI 2) d_Cd_code_84 (by decide) ?_
      refine sw_imul (pc := 85) C d_Cd_code_85 ?_
      refine sw_topi (z := nI (Wi * 2)) (pk_mul _ _) ?_
      refine sw_put (pc := 86) C inCw 0 rfl rfl 5 (by decide) tyCw okCw nmCw t_72 rfl rfl (ty := .int) (by decide +kernel) rfl rfl (Nat.le_of_ble_eq_true rfl) d_Cd_code_86 ?_
      refine sw_aload_n (pc := 89) C d_Cd_code_89 rfl rfl ?_
      refine sw_callAP (pc := 90) C (c_Cw_shift l g a z o r l0 Z2 O2 (Wi * 2) sci vi) su_Cw_Cd_shift t_388 q_389 rfl rfl rfl [0, 1, 2, 3] rfl rfl rfl rfl (Nat.le_of_ble_eq_true rfl) (Nat.le_of_ble_eq_true rfl) (Nat.le_of_ble_eq_true rfl) (Nat.le_of_ble_eq_true rfl) (Nat.le_of_ble_eq_true rfl) d_Cd_code_90 (fun v w1 hp => ?_)
      obtain ⟨rfl, rfl⟩ := hp
      refine ⟨rfl, ?_⟩
      refine sw_ws (ws' := wKw g a z o r l0 ((Z2, O2, Wi * 2, sci + 1), vi * 2)) rfl ?_
      refine sw_iincN (pc := 93) C 1 d_Cd_code_93 rfl (by decide) (by decide) rfl ?_
      refine sw_goto (pc := 96) C 63 d_Cd_code_96 (by decide) ?_
      refine ih (i + 1) (Wi * 2) (sci + 1) (vi * 2) (by omega) (by omega) ?_
      rw [← he]
      have en : nsh (f + 1) Wi = nsh f (Wi * 2) + 1 := by
        show (if Wi ≤ 32768 then nsh f (2 * Wi) + 1 else 0) = _
        rw [if_pos (by omega), Nat.mul_comm]
      rw [en, Nat.pow_succ, show Wi * 2 * 2 ^ nsh f (Wi * 2) = Wi * (2 ^ nsh f (Wi * 2) * 2) by rw [Nat.mul_assoc, Nat.mul_comm 2], show vi * 2 * 2 ^ nsh f (Wi * 2) = vi * (2 ^ nsh f (Wi * 2) * 2) by rw [Nat.mul_assoc, Nat.mul_comm 2], show sci + 1 + nsh f (Wi * 2) = sci + (nsh f (Wi * 2) + 1) by omega]
  have tail : SW X g 6 0 0 (wKw g a z o r l0 ((Z, O, csW (Z, O, W, sc) c b, sc), (v + (if b = 0 then 0 else (csSplit (Z, O, W, sc) c))))) 53 [some (.ref a), some (.int (nI c)), some (.int (nI b)), some (.int (nI (csSplit (Z, O, W, sc) c))), some (.int (nI b)), none] [] := by
    refine sw_aload_n (pc := 53) C d_Cd_code_53 rfl rfl ?_
    refine sw_iload_n (pc := 54) C d_Cd_code_54 rfl rfl ?_
    refine sw_iload (pc := 55) C d_Cd_code_55 rfl ?_
    refine sw_callUP (pc := 57) C (c_tally_w l g a z o (.ref r) (.int (nI l0.length)) (.int (nI sc)) (.int (nI (csW (Z, O, W, sc) c b))) Z O c b hc (by omega) (by omega) hb) su_Cw_Cd_tally t_383 rfl rfl rfl rfl [0, 1, 2] rfl rfl rfl rfl (Nat.le_of_ble_eq_true rfl) (Nat.le_of_ble_eq_true rfl) (Nat.le_of_ble_eq_true rfl) (Nat.le_of_ble_eq_true rfl) (Nat.le_of_ble_eq_true rfl) d_Cd_code_57 (fun v w1 hp => ?_)
    obtain ⟨rfl, rfl⟩ := hp
    refine ⟨rfl, ?_⟩
    refine sw_ws (ws' := wKw g a z o r l0 (((upN Z c (csC (Z, O, W, sc) c b).1), (upN O c (csC (Z, O, W, sc) c b).2), csW (Z, O, W, sc) c b, sc), (v + (if b = 0 then 0 else (csSplit (Z, O, W, sc) c))))) rfl ?_
    refine sw_iconst (pc := 60) C (nI 0) d_Cd_code_60 (by decide) ?_
    refine sw_istore (pc := 61) C d_Cd_code_61 (by decide) rfl ?_
    exact loop (upN Z c (csC (Z, O, W, sc) c b).1) (upN O c (csC (Z, O, W, sc) c b).2) 16 0 (csW (Z, O, W, sc) c b) sc (v + (if b = 0 then 0 else (csSplit (Z, O, W, sc) c))) (by omega) (csW_bd hK hc).2 rfl
  refine sw_istore (pc := 32) C d_Cd_code_32 (by decide) rfl ?_
  refine sw_aload_n (pc := 34) C d_Cd_code_34 rfl rfl ?_
  refine sw_iload (pc := 35) C d_Cd_code_35 rfl ?_
  refine sw_if_neN (pc := 37) C 44 (by omega) d_Cd_code_37 (by decide) (fun h5 => ?_) (fun h5 => ?_)
  · skip
    refine sw_aload_n (pc := 44) C d_Cd_code_44 rfl rfl ?_
    refine sw_get (pc := 45) C inCw 0 rfl rfl 5 (by decide) t_72 rfl rfl d_Cd_code_45 ?_
    refine sw_topi (z := nI W) rfl ?_
    refine sw_iload_n (pc := 48) C d_Cd_code_48 rfl rfl ?_
    refine sw_isub (pc := 49) C d_Cd_code_49 ?_
    refine sw_topi (z := nI (W - (csSplit (Z, O, W, sc) c))) (pk_sub (by omega)) ?_
    refine sw_topi (z := nI (csW (Z, O, W, sc) c b)) (by unfold csW; rw [if_neg (by omega)]) ?_
    refine sw_put (pc := 50) C inCw 0 rfl rfl 5 (by decide) tyCw okCw nmCw t_72 rfl rfl (ty := .int) (by decide +kernel) rfl rfl (Nat.le_of_ble_eq_true rfl) d_Cd_code_50 ?_
    exact tail
  refine sw_iload_n (pc := 40) C d_Cd_code_40 rfl rfl ?_
  refine sw_goto (pc := 41) C 50 d_Cd_code_41 (by decide) ?_
  refine sw_topi (z := nI (csW (Z, O, W, sc) c b)) (by unfold csW; rw [if_pos h5]) ?_
  refine sw_put (pc := 50) C inCw 0 rfl rfl 5 (by decide) tyCw okCw nmCw t_72 rfl rfl (ty := .int) (by decide +kernel) rfl rfl (Nat.le_of_ble_eq_true rfl) d_Cd_code_50 ?_
  exact tail
set_option maxRecDepth 100000 in
set_option maxHeartbeats 4000000 in
theorem c_code_r (l : Launch) (g : Gl) (a z o r : Nat) (l0 : List Nat) (fr en : Nat) (Z O : Nat → Nat) (W sc v : Nat) (c b : Nat) (hK : csOK (Z, O, W, sc)) (hc : c < 48) (hvW : v < W) (hfe : fr ≤ en) (hen : en ≤ 1200) (hl : ∀ k, l0.getD k 0 < 256) : Ct l g y_Cd_code b_Cd_code 6 (some .int) (rmD 1) [.ref a, .int (nI c), .int (nI b)] (wKr g a z o r l0 fr en ((Z, O, W, sc), v)) (fun u w => u = some (.int (nI (kBit (some (dgt l0 fr en)) ((Z, O, W, sc), v) c b))) ∧ w = wKr g a z o r l0 fr en (kStep (some (dgt l0 fr en)) ((Z, O, W, sc), v) c b)) := by
  refine ct_of [some (.ref a), some (.int (nI c)), some (.int (nI b)), none, none, none] (by decide) (Nat.le_of_ble_eq_true rfl) rfl ?_
  intro X C E
  obtain ⟨hz1, ho1, hzo⟩ := hK.1 c hc
  dsimp only at hz1 ho1 hzo
  have hW1 : 32768 < W := hK.2.1
  have hW2 : W ≤ 65536 := hK.2.2
  have hWZ : W * Z c ≤ 65536 * 31 := Nat.mul_le_mul hW2 (by omega)
  have hsp := csSplit_bd hK hc
  dsimp only at hsp
  refine sw_aload_n (pc := 0) C d_Cd_code_0 rfl rfl ?_
  refine sw_get (pc := 1) C inCr 0 rfl rfl 7 (by decide) t_72 rfl rfl d_Cd_code_1 ?_
  refine sw_topi (z := nI W) rfl ?_
  refine sw_aload_n (pc := 4) C d_Cd_code_4 rfl rfl ?_
  refine sw_get (pc := 5) C inCr 0 rfl rfl 5 (by decide) t_70 rfl rfl d_Cd_code_5 ?_
  refine sw_iload_n (pc := 8) C d_Cd_code_8 rfl rfl ?_
  refine sw_ialdN (pc := 9) C 1 c rfl rfl (by omega) (by decide) d_Cd_code_9 ?_
  refine sw_topi (z := nI (Z c)) rfl ?_
  refine sw_imul (pc := 10) C d_Cd_code_10 ?_
  refine sw_topi (z := nI (W * (Z c))) (pk_mul _ _) ?_
  refine sw_aload_n (pc := 11) C d_Cd_code_11 rfl rfl ?_
  refine sw_get (pc := 12) C inCr 0 rfl rfl 5 (by decide) t_70 rfl rfl d_Cd_code_12 ?_
  refine sw_iload_n (pc := 15) C d_Cd_code_15 rfl rfl ?_
  refine sw_ialdN (pc := 16) C 1 c rfl rfl (by omega) (by decide) d_Cd_code_16 ?_
  refine sw_topi (z := nI (Z c)) rfl ?_
  refine sw_aload_n (pc := 17) C d_Cd_code_17 rfl rfl ?_
  refine sw_get (pc := 18) C inCr 0 rfl rfl 6 (by decide) t_71 rfl rfl d_Cd_code_18 ?_
  refine sw_iload_n (pc := 21) C d_Cd_code_21 rfl rfl ?_
  refine sw_ialdN (pc := 22) C 2 c rfl rfl (by omega) (by decide) d_Cd_code_22 ?_
  refine sw_topi (z := nI (O c)) rfl ?_
  refine sw_iadd (pc := 23) C d_Cd_code_23 ?_
  refine sw_topi (z := nI ((Z c) + (O c))) (nI_add _ _) ?_
  refine sw_idiv (pc := 24) C d_Cd_code_24 (nI_ne0 (by omega) (by omega)) ?_
  refine sw_topi (z := nI ((W * (Z c)) / ((Z c) + (O c)))) (pk_div (by omega) (by omega) (by omega)) ?_
  refine sw_topi (z := nI (csSplit (Z, O, W, sc) c)) rfl ?_
  refine sw_istore_n (pc := 25) C d_Cd_code_25 rfl (by decide) rfl ?_
  refine sw_aload_n (pc := 26) C d_Cd_code_26 rfl rfl ?_
  refine sw_iload_n (pc := 27) C d_Cd_code_27 rfl rfl ?_
  refine sw_iload_n (pc := 28) C d_Cd_code_28 rfl rfl ?_
  have hB : (rBit ((Z, O, W, sc), v) c) = (if v < (csSplit (Z, O, W, sc) c) then 0 else 1) := rfl
  refine sw_callAP (pc := 29) C (c_Cr_choose l g a z o r l0 fr en Z O W sc v (csSplit (Z, O, W, sc) c) b (by omega) (by omega)) su_Cr_Cd_choose t_374 q_375 rfl rfl rfl [0, 1, 2, 3] rfl rfl rfl rfl (Nat.le_of_ble_eq_true rfl) (Nat.le_of_ble_eq_true rfl) (Nat.le_of_ble_eq_true rfl) (Nat.le_of_ble_eq_true rfl) (Nat.le_of_ble_eq_true rfl) d_Cd_code_29 (fun v w1 hp => ?_)
  obtain ⟨rfl, rfl⟩ := hp
  refine ⟨rfl, ?_⟩
  refine sw_ws (ws' := wKr g a z o r l0 fr en ((Z, O, W, sc), (v - (if (rBit ((Z, O, W, sc), v) c) = 0 then 0 else (csSplit (Z, O, W, sc) c))))) (by rw [hB]; by_cases e : v < (csSplit (Z, O, W, sc) c) <;> simp [e] <;> rfl) ?_
  refine sw_topi (z := nI (rBit ((Z, O, W, sc), v) c)) rfl ?_
  have hb : (rBit ((Z, O, W, sc), v) c) ≤ 1 := by rcases rBit_01 ((Z, O, W, sc), v) c with e | e <;> omega
  have hlt : (v - (if (rBit ((Z, O, W, sc), v) c) = 0 then 0 else (csSplit (Z, O, W, sc) c))) < csW (Z, O, W, sc) c (rBit ((Z, O, W, sc), v) c) := by
    rw [hB]
    unfold csW
    by_cases e : v < (csSplit (Z, O, W, sc) c)
    · simp only [if_pos e, if_true]; omega
    · simp only [if_neg e]; simp; omega
  have loop : ∀ (Z2 O2 : Nat → Nat) (f i : Nat) (Wi sci vi : Nat), i + f = 16 → Wi ≤ 65536 → vi < Wi → wKr g a z o r l0 fr en ((Z2, O2, Wi * 2 ^ nsh f Wi, sci + nsh f Wi), shin (dgt l0 fr en) (16 + sci) (nsh f Wi) vi) = wKr g a z o r l0 fr en (kStep (some (dgt l0 fr en)) ((Z, O, W, sc), v) c b) → SW X g 6 0 0 (wKr g a z o r l0 fr en ((Z2, O2, Wi, sci), vi)) 63 [some (.ref a), some (.int (nI c)), some (.int (nI b)), some (.int (nI (csSplit (Z, O, W, sc) c))), some (.int (nI (rBit ((Z, O, W, sc), v) c))), some (.int (nI i))] [] := by
    intro Z2 O2 f
    induction f with
    | zero =>
      intro i Wi sci vi hi hWi hvi he
      refine sw_iload (pc := 63) C d_Cd_code_63 rfl ?_
      refine sw_bipush (pc := 65) C (nI 16) d_Cd_code_65 (by decide) ?_
      refine sw_icmp_geN (pc := 67) C 99 (by omega) (by omega) d_Cd_code_67 (by decide) (fun h3 => ?_) (fun h3 => ?_)
      · skip
        refine sw_iload (pc := 99) C d_Cd_code_99 rfl ?_
        exact sw_iret (pc := 101) C E rfl (Nat.le_of_ble_eq_true rfl) (Nat.le_of_ble_eq_true rfl) d_Cd_code_101 ⟨rfl, by rw [← he]; simp [nsh, shin]⟩
      omega
    | succ f ih =>
      intro i Wi sci vi hi hWi hvi he
      refine sw_iload (pc := 63) C d_Cd_code_63 rfl ?_
      refine sw_bipush (pc := 65) C (nI 16) d_Cd_code_65 (by decide) ?_
      refine sw_icmp_geN (pc := 67) C 99 (by omega) (by omega) d_Cd_code_67 (by decide) (fun h3 => ?_) (fun h3 => ?_)
      · skip
        omega
      refine sw_aload_n (pc := 70) C d_Cd_code_70 rfl rfl ?_
      refine sw_get (pc := 71) C inCr 0 rfl rfl 7 (by decide) t_72 rfl rfl d_Cd_code_71 ?_
      refine sw_topi (z := nI Wi) rfl ?_
      refine sw_ldc (pc := 74) C t_387 d_Cd_code_74 ?_
      refine sw_topi (z := nI 32768) rfl ?_
      refine sw_icmp_gtN (pc := 76) C 99 (by omega) (by omega) d_Cd_code_76 (by decide) (fun h4 => ?_) (fun h4 => ?_)
      · skip
        refine sw_iload (pc := 99) C d_Cd_code_99 rfl ?_
        exact sw_iret (pc := 101) C E rfl (Nat.le_of_ble_eq_true rfl) (Nat.le_of_ble_eq_true rfl) d_Cd_code_101 ⟨rfl, by rw [← he]; rw [show nsh (f + 1) Wi = 0 from by unfold nsh; rw [if_neg (by omega)]]; simp [shin]⟩
      refine sw_aload_n (pc := 79) C d_Cd_code_79 rfl rfl ?_
      refine sw_dup (pc := 80) C d_Cd_code_80 rfl ?_
      refine sw_get (pc := 81) C inCr 0 rfl rfl 7 (by decide) t_72 rfl rfl d_Cd_code_81 ?_
      refine sw_topi (z := nI Wi) rfl ?_
      refine sw_iconst (pc := 84) C (nI 2) d_Cd_code_84 (by decide) ?_
      refine sw_imul (pc := 85) C d_Cd_code_85 ?_
      refine sw_topi (z := nI (Wi * 2)) (pk_mul _ _) ?_
      refine sw_put (pc := 86) C inCr 0 rfl rfl 7 (by decide) tyCr okCr nmCr t_72 rfl rfl (ty := .int) (by decide +kernel) rfl rfl (Nat.le_of_ble_eq_true rfl) d_Cd_code_86 ?_
      refine sw_aload_n (pc := 89) C d_Cd_code_89 rfl rfl ?_
      have hdg := dgt_le l0 fr en (16 + sci)
      refine sw_callAP (pc := 90) C (c_Cr_shift l g a z o r l0 fr en Z2 O2 (Wi * 2) vi (16 + sci) (by omega) hen hfe hl) su_Cr_Cd_shift t_388 q_389 rfl rfl rfl [0, 1, 2, 3] rfl rfl rfl rfl (Nat.le_of_ble_eq_true rfl) (Nat.le_of_ble_eq_true rfl) (Nat.le_of_ble_eq_true rfl) (Nat.le_of_ble_eq_true rfl) (Nat.le_of_ble_eq_true rfl) d_Cd_code_90 (fun v w1 hp => ?_)
      obtain ⟨rfl, rfl⟩ := hp
      refine ⟨rfl, ?_⟩
      refine sw_ws (ws' := wKr g a z o r l0 fr en ((Z2, O2, Wi * 2, sci + 1), 2 * vi + dgt l0 fr en (16 + sci))) rfl ?_
      refine sw_iincN (pc := 93) C 1 d_Cd_code_93 rfl (by decide) (by decide) rfl ?_
      refine sw_goto (pc := 96) C 63 d_Cd_code_96 (by decide) ?_
      refine ih (i + 1) (Wi * 2) (sci + 1) (2 * vi + dgt l0 fr en (16 + sci)) (by omega) (by omega) (by omega) ?_
      rw [← he]
      have en2 : nsh (f + 1) Wi = nsh f (Wi * 2) + 1 := by
        show (if Wi ≤ 32768 then nsh f (2 * Wi) + 1 else 0) = _
        rw [if_pos (by omega), Nat.mul_comm]
      rw [en2, Nat.pow_succ, show Wi * 2 * 2 ^ nsh f (Wi * 2) = Wi * (2 ^ nsh f (Wi * 2) * 2) by rw [Nat.mul_assoc, Nat.mul_comm 2], show sci + 1 + nsh f (Wi * 2) = sci + (nsh f (Wi * 2) + 1) by omega]
      try rfl
  have tail : SW X g 6 0 0 (wKr g a z o r l0 fr en ((Z, O, csW (Z, O, W, sc) c (rBit ((Z, O, W, sc), v) c), sc), (v - (if (rBit ((Z, O, W, sc), v) c) = 0 then 0 else (csSplit (Z, O, W, sc) c))))) 53 [some (.ref a), some (.int (nI c)), some (.int (nI b)), some (.int (nI (csSplit (Z, O, W, sc) c))), some (.int (nI (rBit ((Z, O, W, sc), v) c))), none] [] := by
    refine sw_aload_n (pc := 53) C d_Cd_code_53 rfl rfl ?_
    refine sw_iload_n (pc := 54) C d_Cd_code_54 rfl rfl ?_
    refine sw_iload (pc := 55) C d_Cd_code_55 rfl ?_
    refine sw_callUP (pc := 57) C (c_tally_r l g a z o (.ref r) (.int (nI (fr + rdP fr en (16 + sc) / 8))) (.int (nI en)) (.int (nI (rdP fr en (16 + sc) % 8))) (.int (nI (v - (if (rBit ((Z, O, W, sc), v) c) = 0 then 0 else (csSplit (Z, O, W, sc) c))))) (.int (nI (csW (Z, O, W, sc) c (rBit ((Z, O, W, sc), v) c)))) Z O c (rBit ((Z, O, W, sc), v) c) hc (by omega) (by omega) hb) su_Cr_Cd_tally t_383 rfl rfl rfl rfl [0, 1, 2] rfl rfl rfl rfl (Nat.le_of_ble_eq_true rfl) (Nat.le_of_ble_eq_true rfl) (Nat.le_of_ble_eq_true rfl) (Nat.le_of_ble_eq_true rfl) (Nat.le_of_ble_eq_true rfl) d_Cd_code_57 (fun v w1 hp => ?_)
    obtain ⟨rfl, rfl⟩ := hp
    refine ⟨rfl, ?_⟩
    refine sw_ws (ws' := wKr g a z o r l0 fr en (((upN Z c (csC (Z, O, W, sc) c (rBit ((Z, O, W, sc), v) c)).1), (upN O c (csC (Z, O, W, sc) c (rBit ((Z, O, W, sc), v) c)).2), csW (Z, O, W, sc) c (rBit ((Z, O, W, sc), v) c), sc), (v - (if (rBit ((Z, O, W, sc), v) c) = 0 then 0 else (csSplit (Z, O, W, sc) c))))) rfl ?_
    refine sw_iconst (pc := 60) C (nI 0) d_Cd_code_60 (by decide) ?_
    refine sw_istore (pc := 61) C d_Cd_code_61 (by decide) rfl ?_
    exact loop (upN Z c (csC (Z, O, W, sc) c (rBit ((Z, O, W, sc), v) c)).1) (upN O c (csC (Z, O, W, sc) c (rBit ((Z, O, W, sc), v) c)).2) 16 0 (csW (Z, O, W, sc) c (rBit ((Z, O, W, sc), v) c)) sc (v - (if (rBit ((Z, O, W, sc), v) c) = 0 then 0 else (csSplit (Z, O, W, sc) c))) (by omega) (csW_bd hK hc).2 hlt rfl
  refine sw_istore (pc := 32) C d_Cd_code_32 (by decide) rfl ?_
  refine sw_aload_n (pc := 34) C d_Cd_code_34 rfl rfl ?_
  refine sw_iload (pc := 35) C d_Cd_code_35 rfl ?_
  refine sw_if_neN (pc := 37) C 44 (by omega) d_Cd_code_37 (by decide) (fun h5 => ?_) (fun h5 => ?_)
  · skip
    refine sw_aload_n (pc := 44) C d_Cd_code_44 rfl rfl ?_
    refine sw_get (pc := 45) C inCr 0 rfl rfl 7 (by decide) t_72 rfl rfl d_Cd_code_45 ?_
    refine sw_topi (z := nI W) rfl ?_
    refine sw_iload_n (pc := 48) C d_Cd_code_48 rfl rfl ?_
    refine sw_isub (pc := 49) C d_Cd_code_49 ?_
    refine sw_topi (z := nI (W - (csSplit (Z, O, W, sc) c))) (pk_sub (by omega)) ?_
    refine sw_topi (z := nI (csW (Z, O, W, sc) c (rBit ((Z, O, W, sc), v) c))) (by unfold csW; rw [if_neg (by omega)]) ?_
    refine sw_put (pc := 50) C inCr 0 rfl rfl 7 (by decide) tyCr okCr nmCr t_72 rfl rfl (ty := .int) (by decide +kernel) rfl rfl (Nat.le_of_ble_eq_true rfl) d_Cd_code_50 ?_
    exact tail
  refine sw_iload_n (pc := 40) C d_Cd_code_40 rfl rfl ?_
  refine sw_goto (pc := 41) C 50 d_Cd_code_41 (by decide) ?_
  refine sw_topi (z := nI (csW (Z, O, W, sc) c (rBit ((Z, O, W, sc), v) c))) (by unfold csW; rw [if_pos h5]) ?_
  refine sw_put (pc := 50) C inCr 0 rfl rfl 7 (by decide) tyCr okCr nmCr t_72 rfl rfl (ty := .int) (by decide +kernel) rfl rfl (Nat.le_of_ble_eq_true rfl) d_Cd_code_50 ?_
  exact tail
end
