/-! THE CLAIM OUT OF ONE WALK OF THE LAW'S BODY. Your part is whole_start (and what it stands on); all else here is the same for every law, but numbers. -/
def R_law : String := "ScoreReaderLaw"
def lw_P (b : Addr) (xs : List Int32) (args : Array Value) (s : State) : Prop := args = #[.ref b] ∧ s.IntsAt b xs ∧ xs.length ≤ 3072 ∧ (Jvm.Cond.and given_1 narrow_1).before args s = true
def lw_Q (_ : Array Value) (s : State) (o : Outcome) (t : State) : Prop := o = .returned (some (.int 1)) ∧ Framed s o t [] 74 8698
def lw_Z (below : List Frame) (a : Array Value) (s : State) : State → Prop := fun t => ∃ o, t.status = .running ∧ Ended t below o ∧ lw_Q a s o t
/-- the law's own end, with 1 on the stack, nothing written that was there before, its room as the claim has it -/
theorem lw_ret {p : Program} {l : Launch} {e : Env} {s : State} {m : MethodId} {below : List Frame} {meth : Method} {c : Code} {b : Nat} (hx : p.tables.exec = Jvm.exec) (hb : c.code = code) (hr : meth.sig.returnType = ret) (hlocks : meth.locks = false) {pc : Nat} {H : Heap} {ls : Array Slot} (hdg : decode code pc = .ok (.ireturn, 1)) : W p l e room_1 s m #[Value.ref b] below meth c H [] 74 8698 (lw_Z below #[Value.ref b] s) (F0 m pc ls [.int 1]) := by
  intro T hT X
  obtain ⟨fs, hret, hrun, hended, hW, hframe⟩ := X.leave (v := some (.int 1)) (hlocks := hlocks) (fun h => by rw [hr] at h; cases h)
  have hmeth' : T.vm.method? m = some meth := X.method'
  refine ⟨T.setFrames fs, ?_, .returned (some (.int 1)), hrun, hended, rfl, ⟨_, rfl⟩, hW, hframe⟩
  jvm_step X.here [X.here.top, hx, hb, hdg, hmeth', hr, ret, narrow_b1]
  (try refine ⟨rfl, ?_⟩); (try refine ⟨rfl, ?_⟩)
  first | (intro acts; rw [hret _ acts rfl rfl rfl]) | rw [hret _ _ rfl rfl rfl]
  exact Steps.refl _
/-- what holds at the law's entry: the machine, the code, the tables' words (any of lw_tbl by 'hts w (by decide +kernel)'), the script of L ints xs at the cell b, what the Statement gives of the start (any of its parts by flat_of_before) -/
def lw_At (p : Program) (s : State) (m : MethodId) (meth : Method) (c : Code) (b L : Nat) (xs : Nat → Int32) : Prop :=
  p.tables.exec = Jvm.exec ∧ c.code = code ∧ meth.sig.returnType = ret ∧ c.maxLocals = 4 ∧ s.vm.findClass R_law = some m.cls ∧ (∀ w ∈ lw_tbl, w.before #[Value.ref b] s = true) ∧ va_X b L xs s s.heap ∧ b < s.heap.size ∧ meth.locks = false ∧ (Jvm.Cond.and given_1 narrow_1).before #[Value.ref b] s = true
theorem gw_974 : Cond.constantLong RL 13 4294967295 ∈ GW := GW_of 974 (by decide +kernel) (by decide +kernel)
theorem gw_268 : Cond.methodLink RL 15 yX7_row ∈ GW := GW_of 268 (by decide +kernel) (by decide +kernel)
theorem gw_271 : Cond.code yX7_row cX7_row 4 (some .int) ∈ GW := GW_of 271 (by decide +kernel) (by decide +kernel)
theorem gw_269 : Cond.instanceMethod yX7_row ∈ GW := GW_of 269 (by decide +kernel) (by decide +kernel)
theorem gw_270 : Cond.selects RX7 yX7_row yX7_row ∈ GW := GW_of 270 (by decide +kernel) (by decide +kernel)
theorem gw_803 : Cond.methodLink RL 19 yX8_row ∈ GW := GW_of 803 (by decide +kernel) (by decide +kernel)
theorem gw_806 : Cond.code yX8_row cX8_row 4 (some .int) ∈ GW := GW_of 806 (by decide +kernel) (by decide +kernel)
theorem gw_804 : Cond.instanceMethod yX8_row ∈ GW := GW_of 804 (by decide +kernel) (by decide +kernel)
theorem gw_805 : Cond.selects RX8 yX8_row yX8_row ∈ GW := GW_of 805 (by decide +kernel) (by decide +kernel)
theorem gw_286 : Cond.methodLink RL 20 yX7_ink ∈ GW := GW_of 286 (by decide +kernel) (by decide +kernel)
theorem gw_289 : Cond.code yX7_ink cX7_ink 6 (some .int) ∈ GW := GW_of 289 (by decide +kernel) (by decide +kernel)
theorem gw_287 : Cond.instanceMethod yX7_ink ∈ GW := GW_of 287 (by decide +kernel) (by decide +kernel)
theorem gw_288 : Cond.selects RX7 yX7_ink yX7_ink ∈ GW := GW_of 288 (by decide +kernel) (by decide +kernel)
theorem gw_813 : Cond.methodLink RL 24 yX8_ink ∈ GW := GW_of 813 (by decide +kernel) (by decide +kernel)
theorem gw_816 : Cond.code yX8_ink cX8_ink 9 (some .int) ∈ GW := GW_of 816 (by decide +kernel) (by decide +kernel)
theorem gw_814 : Cond.instanceMethod yX8_ink ∈ GW := GW_of 814 (by decide +kernel) (by decide +kernel)
theorem gw_815 : Cond.selects RX8 yX8_ink yX8_ink ∈ GW := GW_of 815 (by decide +kernel) (by decide +kernel)
theorem gw_301 : Cond.methodLink RL 25 yX7_run ∈ GW := GW_of 301 (by decide +kernel) (by decide +kernel)
theorem gw_304 : Cond.code yX7_run cX7_run 3 (some .int) ∈ GW := GW_of 304 (by decide +kernel) (by decide +kernel)
theorem gw_302 : Cond.instanceMethod yX7_run ∈ GW := GW_of 302 (by decide +kernel) (by decide +kernel)
theorem gw_303 : Cond.selects RX7 yX7_run yX7_run ∈ GW := GW_of 303 (by decide +kernel) (by decide +kernel)
theorem gw_821 : Cond.methodLink RL 29 yX8_run ∈ GW := GW_of 821 (by decide +kernel) (by decide +kernel)
theorem gw_824 : Cond.code yX8_run cX8_run 3 (some .int) ∈ GW := GW_of 824 (by decide +kernel) (by decide +kernel)
theorem gw_822 : Cond.instanceMethod yX8_run ∈ GW := GW_of 822 (by decide +kernel) (by decide +kernel)
theorem gw_823 : Cond.selects RX8 yX8_run yX8_run ∈ GW := GW_of 823 (by decide +kernel) (by decide +kernel)
theorem gw_305 : Cond.methodLink RL 30 yX7_dot ∈ GW := GW_of 305 (by decide +kernel) (by decide +kernel)
theorem gw_308 : Cond.code yX7_dot cX7_dot 3 (some .int) ∈ GW := GW_of 308 (by decide +kernel) (by decide +kernel)
theorem gw_306 : Cond.instanceMethod yX7_dot ∈ GW := GW_of 306 (by decide +kernel) (by decide +kernel)
theorem gw_307 : Cond.selects RX7 yX7_dot yX7_dot ∈ GW := GW_of 307 (by decide +kernel) (by decide +kernel)
theorem gw_825 : Cond.methodLink RL 34 yX8_dot ∈ GW := GW_of 825 (by decide +kernel) (by decide +kernel)
theorem gw_828 : Cond.code yX8_dot cX8_dot 3 (some .int) ∈ GW := GW_of 828 (by decide +kernel) (by decide +kernel)
theorem gw_826 : Cond.instanceMethod yX8_dot ∈ GW := GW_of 826 (by decide +kernel) (by decide +kernel)
theorem gw_827 : Cond.selects RX8 yX8_dot yX8_dot ∈ GW := GW_of 827 (by decide +kernel) (by decide +kernel)
theorem gw_313 : Cond.methodLink RL 35 yX7_lines ∈ GW := GW_of 313 (by decide +kernel) (by decide +kernel)
theorem gw_316 : Cond.code yX7_lines cX7_lines 1 (some .int) ∈ GW := GW_of 316 (by decide +kernel) (by decide +kernel)
theorem gw_314 : Cond.instanceMethod yX7_lines ∈ GW := GW_of 314 (by decide +kernel) (by decide +kernel)
theorem gw_315 : Cond.selects RX7 yX7_lines yX7_lines ∈ GW := GW_of 315 (by decide +kernel) (by decide +kernel)
theorem gw_829 : Cond.methodLink RL 39 yX8_lines ∈ GW := GW_of 829 (by decide +kernel) (by decide +kernel)
theorem gw_832 : Cond.code yX8_lines cX8_lines 1 (some .int) ∈ GW := GW_of 832 (by decide +kernel) (by decide +kernel)
theorem gw_830 : Cond.instanceMethod yX8_lines ∈ GW := GW_of 830 (by decide +kernel) (by decide +kernel)
theorem gw_831 : Cond.selects RX8 yX8_lines yX8_lines ∈ GW := GW_of 831 (by decide +kernel) (by decide +kernel)
theorem gw_355 : Cond.methodLink RL 40 yX7_staff ∈ GW := GW_of 355 (by decide +kernel) (by decide +kernel)
theorem gw_358 : Cond.code yX7_staff cX7_staff 3 (some .int) ∈ GW := GW_of 358 (by decide +kernel) (by decide +kernel)
theorem gw_356 : Cond.instanceMethod yX7_staff ∈ GW := GW_of 356 (by decide +kernel) (by decide +kernel)
theorem gw_357 : Cond.selects RX7 yX7_staff yX7_staff ∈ GW := GW_of 357 (by decide +kernel) (by decide +kernel)
theorem gw_841 : Cond.methodLink RL 43 yX8_staff ∈ GW := GW_of 841 (by decide +kernel) (by decide +kernel)
theorem gw_844 : Cond.code yX8_staff cX8_staff 4 (some .int) ∈ GW := GW_of 844 (by decide +kernel) (by decide +kernel)
theorem gw_842 : Cond.instanceMethod yX8_staff ∈ GW := GW_of 842 (by decide +kernel) (by decide +kernel)
theorem gw_843 : Cond.selects RX8 yX8_staff yX8_staff ∈ GW := GW_of 843 (by decide +kernel) (by decide +kernel)
theorem gw_371 : Cond.methodLink RL 44 yX7_find ∈ GW := GW_of 371 (by decide +kernel) (by decide +kernel)
theorem gw_374 : Cond.code yX7_find cX7_find 1 (some .int) ∈ GW := GW_of 374 (by decide +kernel) (by decide +kernel)
theorem gw_372 : Cond.instanceMethod yX7_find ∈ GW := GW_of 372 (by decide +kernel) (by decide +kernel)
theorem gw_373 : Cond.selects RX7 yX7_find yX7_find ∈ GW := GW_of 373 (by decide +kernel) (by decide +kernel)
theorem gw_849 : Cond.methodLink RL 47 yX8_find ∈ GW := GW_of 849 (by decide +kernel) (by decide +kernel)
theorem gw_852 : Cond.code yX8_find cX8_find 4 (some .int) ∈ GW := GW_of 852 (by decide +kernel) (by decide +kernel)
theorem gw_850 : Cond.instanceMethod yX8_find ∈ GW := GW_of 850 (by decide +kernel) (by decide +kernel)
theorem gw_851 : Cond.selects RX8 yX8_find yX8_find ∈ GW := GW_of 851 (by decide +kernel) (by decide +kernel)
theorem gw_457 : Cond.methodLink RL 48 yX7_sign ∈ GW := GW_of 457 (by decide +kernel) (by decide +kernel)
theorem gw_460 : Cond.code yX7_sign cX7_sign 3 (some .int) ∈ GW := GW_of 460 (by decide +kernel) (by decide +kernel)
theorem gw_458 : Cond.instanceMethod yX7_sign ∈ GW := GW_of 458 (by decide +kernel) (by decide +kernel)
theorem gw_459 : Cond.selects RX7 yX7_sign yX7_sign ∈ GW := GW_of 459 (by decide +kernel) (by decide +kernel)
theorem gw_874 : Cond.methodLink RL 51 yX8_sign ∈ GW := GW_of 874 (by decide +kernel) (by decide +kernel)
theorem gw_877 : Cond.code yX8_sign cX8_sign 3 (some .int) ∈ GW := GW_of 877 (by decide +kernel) (by decide +kernel)
theorem gw_875 : Cond.instanceMethod yX8_sign ∈ GW := GW_of 875 (by decide +kernel) (by decide +kernel)
theorem gw_876 : Cond.selects RX8 yX8_sign yX8_sign ∈ GW := GW_of 876 (by decide +kernel) (by decide +kernel)
theorem gw_470 : Cond.methodLink RL 52 yX7_kind ∈ GW := GW_of 470 (by decide +kernel) (by decide +kernel)
theorem gw_473 : Cond.code yX7_kind cX7_kind 6 (some .int) ∈ GW := GW_of 473 (by decide +kernel) (by decide +kernel)
theorem gw_471 : Cond.instanceMethod yX7_kind ∈ GW := GW_of 471 (by decide +kernel) (by decide +kernel)
theorem gw_472 : Cond.selects RX7 yX7_kind yX7_kind ∈ GW := GW_of 472 (by decide +kernel) (by decide +kernel)
theorem gw_887 : Cond.methodLink RL 56 yX8_kind ∈ GW := GW_of 887 (by decide +kernel) (by decide +kernel)
theorem gw_890 : Cond.code yX8_kind cX8_kind 6 (some .int) ∈ GW := GW_of 890 (by decide +kernel) (by decide +kernel)
theorem gw_888 : Cond.instanceMethod yX8_kind ∈ GW := GW_of 888 (by decide +kernel) (by decide +kernel)
theorem gw_889 : Cond.selects RX8 yX8_kind yX8_kind ∈ GW := GW_of 889 (by decide +kernel) (by decide +kernel)
theorem gw_479 : Cond.methodLink RL 57 yX7_set ∈ GW := GW_of 479 (by decide +kernel) (by decide +kernel)
theorem gw_482 : Cond.code yX7_set cX7_set 3 (some .int) ∈ GW := GW_of 482 (by decide +kernel) (by decide +kernel)
theorem gw_480 : Cond.instanceMethod yX7_set ∈ GW := GW_of 480 (by decide +kernel) (by decide +kernel)
theorem gw_481 : Cond.selects RX7 yX7_set yX7_set ∈ GW := GW_of 481 (by decide +kernel) (by decide +kernel)
theorem gw_891 : Cond.methodLink RL 60 yX8_set ∈ GW := GW_of 891 (by decide +kernel) (by decide +kernel)
theorem gw_894 : Cond.code yX8_set cX8_set 4 (some .int) ∈ GW := GW_of 894 (by decide +kernel) (by decide +kernel)
theorem gw_892 : Cond.instanceMethod yX8_set ∈ GW := GW_of 892 (by decide +kernel) (by decide +kernel)
theorem gw_893 : Cond.selects RX8 yX8_set yX8_set ∈ GW := GW_of 893 (by decide +kernel) (by decide +kernel)
theorem gw_491 : Cond.methodLink RL 61 yX7_correct ∈ GW := GW_of 491 (by decide +kernel) (by decide +kernel)
theorem gw_494 : Cond.code yX7_correct cX7_correct 4 (some .int) ∈ GW := GW_of 494 (by decide +kernel) (by decide +kernel)
theorem gw_492 : Cond.instanceMethod yX7_correct ∈ GW := GW_of 492 (by decide +kernel) (by decide +kernel)
theorem gw_493 : Cond.selects RX7 yX7_correct yX7_correct ∈ GW := GW_of 493 (by decide +kernel) (by decide +kernel)
theorem gw_895 : Cond.methodLink RL 64 yX8_correct ∈ GW := GW_of 895 (by decide +kernel) (by decide +kernel)
theorem gw_898 : Cond.code yX8_correct cX8_correct 4 (some .int) ∈ GW := GW_of 898 (by decide +kernel) (by decide +kernel)
theorem gw_896 : Cond.instanceMethod yX8_correct ∈ GW := GW_of 896 (by decide +kernel) (by decide +kernel)
theorem gw_897 : Cond.selects RX8 yX8_correct yX8_correct ∈ GW := GW_of 897 (by decide +kernel) (by decide +kernel)
theorem gw_503 : Cond.methodLink RL 65 yX7_best ∈ GW := GW_of 503 (by decide +kernel) (by decide +kernel)
theorem gw_506 : Cond.code yX7_best cX7_best 1 (some .int) ∈ GW := GW_of 506 (by decide +kernel) (by decide +kernel)
theorem gw_504 : Cond.instanceMethod yX7_best ∈ GW := GW_of 504 (by decide +kernel) (by decide +kernel)
theorem gw_505 : Cond.selects RX7 yX7_best yX7_best ∈ GW := GW_of 505 (by decide +kernel) (by decide +kernel)
theorem gw_899 : Cond.methodLink RL 68 yX8_best ∈ GW := GW_of 899 (by decide +kernel) (by decide +kernel)
theorem gw_902 : Cond.code yX8_best cX8_best 1 (some .int) ∈ GW := GW_of 902 (by decide +kernel) (by decide +kernel)
theorem gw_900 : Cond.instanceMethod yX8_best ∈ GW := GW_of 900 (by decide +kernel) (by decide +kernel)
theorem gw_901 : Cond.selects RX8 yX8_best yX8_best ∈ GW := GW_of 901 (by decide +kernel) (by decide +kernel)
theorem gw_595 : Cond.methodLink RL 69 yX7_read ∈ GW := GW_of 595 (by decide +kernel) (by decide +kernel)
theorem gw_598 : Cond.code yX7_read cX7_read 3 (some .int) ∈ GW := GW_of 598 (by decide +kernel) (by decide +kernel)
theorem gw_596 : Cond.instanceMethod yX7_read ∈ GW := GW_of 596 (by decide +kernel) (by decide +kernel)
theorem gw_597 : Cond.selects RX7 yX7_read yX7_read ∈ GW := GW_of 597 (by decide +kernel) (by decide +kernel)
theorem gw_926 : Cond.methodLink RL 72 yX8_read ∈ GW := GW_of 926 (by decide +kernel) (by decide +kernel)
theorem gw_929 : Cond.code yX8_read cX8_read 2 (some .int) ∈ GW := GW_of 929 (by decide +kernel) (by decide +kernel)
theorem gw_927 : Cond.instanceMethod yX8_read ∈ GW := GW_of 927 (by decide +kernel) (by decide +kernel)
theorem gw_928 : Cond.selects RX8 yX8_read yX8_read ∈ GW := GW_of 928 (by decide +kernel) (by decide +kernel)
theorem gw_603 : Cond.methodLink RL 73 yX7_doubt ∈ GW := GW_of 603 (by decide +kernel) (by decide +kernel)
theorem gw_606 : Cond.code yX7_doubt cX7_doubt 3 (some .int) ∈ GW := GW_of 606 (by decide +kernel) (by decide +kernel)
theorem gw_604 : Cond.instanceMethod yX7_doubt ∈ GW := GW_of 604 (by decide +kernel) (by decide +kernel)
theorem gw_605 : Cond.selects RX7 yX7_doubt yX7_doubt ∈ GW := GW_of 605 (by decide +kernel) (by decide +kernel)
theorem gw_930 : Cond.methodLink RL 76 yX8_doubt ∈ GW := GW_of 930 (by decide +kernel) (by decide +kernel)
theorem gw_933 : Cond.code yX8_doubt cX8_doubt 3 (some .int) ∈ GW := GW_of 933 (by decide +kernel) (by decide +kernel)
theorem gw_931 : Cond.instanceMethod yX8_doubt ∈ GW := GW_of 931 (by decide +kernel) (by decide +kernel)
theorem gw_932 : Cond.selects RX8 yX8_doubt yX8_doubt ∈ GW := GW_of 932 (by decide +kernel) (by decide +kernel)
theorem gw_629 : Cond.methodLink RL 77 yX7_question ∈ GW := GW_of 629 (by decide +kernel) (by decide +kernel)
theorem gw_632 : Cond.code yX7_question cX7_question 1 (some .int) ∈ GW := GW_of 632 (by decide +kernel) (by decide +kernel)
theorem gw_630 : Cond.instanceMethod yX7_question ∈ GW := GW_of 630 (by decide +kernel) (by decide +kernel)
theorem gw_631 : Cond.selects RX7 yX7_question yX7_question ∈ GW := GW_of 631 (by decide +kernel) (by decide +kernel)
theorem gw_938 : Cond.methodLink RL 80 yX8_question ∈ GW := GW_of 938 (by decide +kernel) (by decide +kernel)
theorem gw_941 : Cond.code yX8_question cX8_question 6 (some .int) ∈ GW := GW_of 941 (by decide +kernel) (by decide +kernel)
theorem gw_939 : Cond.instanceMethod yX8_question ∈ GW := GW_of 939 (by decide +kernel) (by decide +kernel)
theorem gw_940 : Cond.selects RX8 yX8_question yX8_question ∈ GW := GW_of 940 (by decide +kernel) (by decide +kernel)
theorem gw_637 : Cond.methodLink RL 81 yX7_measures ∈ GW := GW_of 637 (by decide +kernel) (by decide +kernel)
theorem gw_640 : Cond.code yX7_measures cX7_measures 1 (some .int) ∈ GW := GW_of 640 (by decide +kernel) (by decide +kernel)
theorem gw_638 : Cond.instanceMethod yX7_measures ∈ GW := GW_of 638 (by decide +kernel) (by decide +kernel)
theorem gw_639 : Cond.selects RX7 yX7_measures yX7_measures ∈ GW := GW_of 639 (by decide +kernel) (by decide +kernel)
theorem gw_942 : Cond.methodLink RL 84 yX8_measures ∈ GW := GW_of 942 (by decide +kernel) (by decide +kernel)
theorem gw_945 : Cond.code yX8_measures cX8_measures 1 (some .int) ∈ GW := GW_of 945 (by decide +kernel) (by decide +kernel)
theorem gw_943 : Cond.instanceMethod yX8_measures ∈ GW := GW_of 943 (by decide +kernel) (by decide +kernel)
theorem gw_944 : Cond.selects RX8 yX8_measures yX8_measures ∈ GW := GW_of 944 (by decide +kernel) (by decide +kernel)
theorem gw_645 : Cond.methodLink RL 85 yX7_note ∈ GW := GW_of 645 (by decide +kernel) (by decide +kernel)
theorem gw_648 : Cond.code yX7_note cX7_note 5 (some .int) ∈ GW := GW_of 648 (by decide +kernel) (by decide +kernel)
theorem gw_646 : Cond.instanceMethod yX7_note ∈ GW := GW_of 646 (by decide +kernel) (by decide +kernel)
theorem gw_647 : Cond.selects RX7 yX7_note yX7_note ∈ GW := GW_of 647 (by decide +kernel) (by decide +kernel)
theorem gw_950 : Cond.methodLink RL 89 yX8_note ∈ GW := GW_of 950 (by decide +kernel) (by decide +kernel)
theorem gw_953 : Cond.code yX8_note cX8_note 7 (some .int) ∈ GW := GW_of 953 (by decide +kernel) (by decide +kernel)
theorem gw_951 : Cond.instanceMethod yX8_note ∈ GW := GW_of 951 (by decide +kernel) (by decide +kernel)
theorem gw_952 : Cond.selects RX8 yX8_note yX8_note ∈ GW := GW_of 952 (by decide +kernel) (by decide +kernel)
theorem gw_657 : Cond.methodLink RL 90 yX7_sway ∈ GW := GW_of 657 (by decide +kernel) (by decide +kernel)
theorem gw_660 : Cond.code yX7_sway cX7_sway 3 (some .int) ∈ GW := GW_of 660 (by decide +kernel) (by decide +kernel)
theorem gw_658 : Cond.instanceMethod yX7_sway ∈ GW := GW_of 658 (by decide +kernel) (by decide +kernel)
theorem gw_659 : Cond.selects RX7 yX7_sway yX7_sway ∈ GW := GW_of 659 (by decide +kernel) (by decide +kernel)
theorem gw_958 : Cond.methodLink RL 93 yX8_sway ∈ GW := GW_of 958 (by decide +kernel) (by decide +kernel)
theorem gw_961 : Cond.code yX8_sway cX8_sway 4 (some .int) ∈ GW := GW_of 961 (by decide +kernel) (by decide +kernel)
theorem gw_959 : Cond.instanceMethod yX8_sway ∈ GW := GW_of 959 (by decide +kernel) (by decide +kernel)
theorem gw_960 : Cond.selects RX8 yX8_sway yX8_sway ∈ GW := GW_of 960 (by decide +kernel) (by decide +kernel)
theorem gw_667 : Cond.methodLink RL 94 yX7_played ∈ GW := GW_of 667 (by decide +kernel) (by decide +kernel)
theorem gw_670 : Cond.code yX7_played cX7_played 2 (some .int) ∈ GW := GW_of 670 (by decide +kernel) (by decide +kernel)
theorem gw_668 : Cond.instanceMethod yX7_played ∈ GW := GW_of 668 (by decide +kernel) (by decide +kernel)
theorem gw_669 : Cond.selects RX7 yX7_played yX7_played ∈ GW := GW_of 669 (by decide +kernel) (by decide +kernel)
theorem gw_962 : Cond.methodLink RL 97 yX8_played ∈ GW := GW_of 962 (by decide +kernel) (by decide +kernel)
theorem gw_965 : Cond.code yX8_played cX8_played 4 (some .int) ∈ GW := GW_of 965 (by decide +kernel) (by decide +kernel)
theorem gw_963 : Cond.instanceMethod yX8_played ∈ GW := GW_of 963 (by decide +kernel) (by decide +kernel)
theorem gw_964 : Cond.selects RX8 yX8_played yX8_played ∈ GW := GW_of 964 (by decide +kernel) (by decide +kernel)
theorem gw_688 : Cond.methodLink RL 98 yX7_count ∈ GW := GW_of 688 (by decide +kernel) (by decide +kernel)
theorem gw_691 : Cond.code yX7_count cX7_count 2 (some .int) ∈ GW := GW_of 691 (by decide +kernel) (by decide +kernel)
theorem gw_689 : Cond.instanceMethod yX7_count ∈ GW := GW_of 689 (by decide +kernel) (by decide +kernel)
theorem gw_690 : Cond.selects RX7 yX7_count yX7_count ∈ GW := GW_of 690 (by decide +kernel) (by decide +kernel)
theorem gw_970 : Cond.methodLink RL 101 yX8_count ∈ GW := GW_of 970 (by decide +kernel) (by decide +kernel)
theorem gw_973 : Cond.code yX8_count cX8_count 5 (some .int) ∈ GW := GW_of 973 (by decide +kernel) (by decide +kernel)
theorem gw_971 : Cond.instanceMethod yX8_count ∈ GW := GW_of 971 (by decide +kernel) (by decide +kernel)
theorem gw_972 : Cond.selects RX8 yX8_count yX8_count ∈ GW := GW_of 972 (by decide +kernel) (by decide +kernel)
theorem gl_V {own : String} {idx : Nat} {C : String} {y : MethodName} {b : ByteArray} {n : Nat} {r : Option FieldType} (h1 : Cond.methodLink own idx y ∈ GW) (h2 : Cond.instanceMethod y ∈ GW) (h3 : Cond.selects C y y ∈ GW) (h4 : Cond.initialized C ∈ GW) (h5 : Cond.code y b n r ∈ GW) : GoodIn lw_tbl (wsV own idx C y (Cond.code y b n r :: GW)) := by
  have key : ∀ w ∈ GW, w ∈ lw_tbl ∧ ((w.onTables && w.keeps) = true ∨ ∃ ty, w = .arrayClass ty) := fun w hw => ⟨GW_in hw, good_of_word (List.mem_filter.mp hw).2⟩
  intro w hw
  simp only [wsV, List.cons_append, List.nil_append, List.mem_cons] at hw
  rcases hw with rfl | rfl | rfl | rfl | rfl | hw
  · exact key _ h1
  · exact key _ h2
  · exact key _ h3
  · exact key _ h4
  · exact key _ h5
  · exact key _ hw
theorem gl_C {y : MethodName} {b : ByteArray} {n : Nat} {r : Option FieldType} (h5 : Cond.code y b n r ∈ GW) : GoodIn lw_tbl (Cond.code y b n r :: GW) := by
  have key : ∀ w ∈ GW, w ∈ lw_tbl ∧ ((w.onTables && w.keeps) = true ∨ ∃ ty, w = .arrayClass ty) := fun w hw => ⟨GW_in hw, good_of_word (List.mem_filter.mp hw).2⟩
  intro w hw
  rcases List.mem_cons.mp hw with rfl | hw
  · exact key _ h5
  · exact key _ hw
def wd_L (cI cJ cZ : ClassId) (a_x a_x_board a_x_board_rows a_x_ruled a_x_ruled_firsts a_x_ruled_firsts_cells a_x_ruled_lasts a_x_ruled_lasts_cells a_x_signs a_x_signs_left a_x_signs_left_rows a_x_signs_queue a_x_signs_queue_cells a_x_signs_facts a_x_signs_facts_cells a_x_signs_places a_x_signs_places_cells a_x_signs_told a_x_signs_told_cells a_x_kinds a_x_kinds_lows a_x_kinds_lows_cells a_x_kinds_highs a_x_kinds_highs_cells a_x_kinds_heights a_x_kinds_heights_cells a_x_kinds_prices a_x_kinds_prices_cells a_x_reading a_x_reading_costs a_x_reading_costs_cells a_x_reading_nexts a_x_reading_nexts_cells a_x_reading_rests a_x_reading_rests_cells a_x_reading_aheads a_x_reading_aheads_cells a_x_reading_coming a_x_reading_coming_cells a_x_reading_meanings a_x_reading_meanings_cells a_x_reading_doubts a_x_reading_doubts_cells a_x_reading_measureOf a_x_reading_measureOf_cells a_x_reading_times a_x_reading_times_cells a_x_ways a_x_ways_signs a_x_ways_signs_cells a_x_ways_gone a_x_ways_gone_cells a_m a_m_board a_m_area a_m_x0 a_m_y0 a_m_x1 a_m_y1 a_m_head a_m_said a_m_low a_m_high a_m_least a_m_price a_m_way a_m_lineFirst a_m_lineLast a_m_left a_m_pile a_m_rest a_m_read a_m_measure a_m_wentBack : Nat) (X : XT) (M : MT) : va_W := ((a_x, .inr (7, [.ref a_x_board, .ref a_x_ruled, .ref a_x_signs, .ref a_x_kinds, .ref a_x_reading, .ref a_x_ways, .int (X_leastRun X), .int (X_found X), .int (X_readingIsOld X)])) :: (a_x_board, .inr (4, [.ref a_x_board_rows])) :: (a_x_board_rows, .inl (cJ, 32, .inr (.inl (X_board_rows X)))) :: (a_x_ruled, .inr (1, [.ref a_x_ruled_firsts, .ref a_x_ruled_lasts, .int (X_ruled_size X), .int (X_ruled_staffStart X)])) :: (a_x_ruled_firsts, .inr (3, [.ref a_x_ruled_firsts_cells])) :: (a_x_ruled_firsts_cells, .inl (cI, 32, .inl (X_ruled_firsts_cells X))) :: (a_x_ruled_lasts, .inr (3, [.ref a_x_ruled_lasts_cells])) :: (a_x_ruled_lasts_cells, .inl (cI, 32, .inl (X_ruled_lasts_cells X))) :: (a_x_signs, .inr (5, [.ref a_x_signs_left, .ref a_x_signs_queue, .ref a_x_signs_facts, .ref a_x_signs_places, .ref a_x_signs_told, .int (X_signs_size X), .int (X_signs_sizeBefore X)])) :: (a_x_signs_left, .inr (4, [.ref a_x_signs_left_rows])) :: (a_x_signs_left_rows, .inl (cJ, 32, .inr (.inl (X_signs_left_rows X)))) :: (a_x_signs_queue, .inr (3, [.ref a_x_signs_queue_cells])) :: (a_x_signs_queue_cells, .inl (cI, 1920, .inl (X_signs_queue_cells X))) :: (a_x_signs_facts, .inr (3, [.ref a_x_signs_facts_cells])) :: (a_x_signs_facts_cells, .inl (cI, 240, .inl (X_signs_facts_cells X))) :: (a_x_signs_places, .inr (3, [.ref a_x_signs_places_cells])) :: (a_x_signs_places_cells, .inl (cI, 40, .inl (X_signs_places_cells X))) :: (a_x_signs_told, .inr (3, [.ref a_x_signs_told_cells])) :: (a_x_signs_told_cells, .inl (cI, 40, .inl (X_signs_told_cells X))) :: (a_x_kinds, .inr (0, [.ref a_x_kinds_lows, .ref a_x_kinds_highs, .ref a_x_kinds_heights, .ref a_x_kinds_prices, .int (X_kinds_dirt X), .int (X_kinds_time X)])) :: (a_x_kinds_lows, .inr (3, [.ref a_x_kinds_lows_cells])) :: (a_x_kinds_lows_cells, .inl (cI, 6, .inl (X_kinds_lows_cells X))) :: (a_x_kinds_highs, .inr (3, [.ref a_x_kinds_highs_cells])) :: (a_x_kinds_highs_cells, .inl (cI, 6, .inl (X_kinds_highs_cells X))) :: (a_x_kinds_heights, .inr (3, [.ref a_x_kinds_heights_cells])) :: (a_x_kinds_heights_cells, .inl (cI, 6, .inl (X_kinds_heights_cells X))) :: (a_x_kinds_prices, .inr (3, [.ref a_x_kinds_prices_cells])) :: (a_x_kinds_prices_cells, .inl (cI, 6, .inl (X_kinds_prices_cells X))) :: (a_x_reading, .inr (2, [.ref a_x_reading_costs, .ref a_x_reading_nexts, .ref a_x_reading_rests, .ref a_x_reading_aheads, .ref a_x_reading_coming, .ref a_x_reading_meanings, .ref a_x_reading_doubts, .ref a_x_reading_measureOf, .ref a_x_reading_times, .int (X_reading_size X), .int (X_reading_states X), .int (X_reading_total X), .int (X_reading_measures X), .int (X_reading_doubtsAreOld X)])) :: (a_x_reading_costs, .inr (3, [.ref a_x_reading_costs_cells])) :: (a_x_reading_costs_cells, .inl (cI, 280, .inl (X_reading_costs_cells X))) :: (a_x_reading_nexts, .inr (3, [.ref a_x_reading_nexts_cells])) :: (a_x_reading_nexts_cells, .inl (cI, 525, .inl (X_reading_nexts_cells X))) :: (a_x_reading_rests, .inr (3, [.ref a_x_reading_rests_cells])) :: (a_x_reading_rests_cells, .inl (cI, 3075, .inl (X_reading_rests_cells X))) :: (a_x_reading_aheads, .inr (3, [.ref a_x_reading_aheads_cells])) :: (a_x_reading_aheads_cells, .inl (cI, 75, .inl (X_reading_aheads_cells X))) :: (a_x_reading_coming, .inr (3, [.ref a_x_reading_coming_cells])) :: (a_x_reading_coming_cells, .inl (cI, 75, .inl (X_reading_coming_cells X))) :: (a_x_reading_meanings, .inr (3, [.ref a_x_reading_meanings_cells])) :: (a_x_reading_meanings_cells, .inl (cI, 40, .inl (X_reading_meanings_cells X))) :: (a_x_reading_doubts, .inr (3, [.ref a_x_reading_doubts_cells])) :: (a_x_reading_doubts_cells, .inl (cI, 40, .inl (X_reading_doubts_cells X))) :: (a_x_reading_measureOf, .inr (3, [.ref a_x_reading_measureOf_cells])) :: (a_x_reading_measureOf_cells, .inl (cI, 40, .inl (X_reading_measureOf_cells X))) :: (a_x_reading_times, .inr (3, [.ref a_x_reading_times_cells])) :: (a_x_reading_times_cells, .inl (cI, 40, .inl (X_reading_times_cells X))) :: (a_x_ways, .inr (6, [.ref a_x_ways_signs, .ref a_x_ways_gone])) :: (a_x_ways_signs, .inr (3, [.ref a_x_ways_signs_cells])) :: (a_x_ways_signs_cells, .inl (cI, 40, .inl (X_ways_signs_cells X))) :: (a_x_ways_gone, .inr (3, [.ref a_x_ways_gone_cells])) :: (a_x_ways_gone_cells, .inl (cI, 40, .inl (X_ways_gone_cells X))) :: (a_m, .inr (8, [.ref a_m_board, .int (M_run M), .int (M_signs M), .int (M_lastSigns M), .ref a_m_area, .ref a_m_x0, .ref a_m_y0, .ref a_m_x1, .ref a_m_y1, .ref a_m_head, .ref a_m_said, .ref a_m_low, .ref a_m_high, .ref a_m_least, .ref a_m_price, .int (M_dirt M), .int (M_time M), .ref a_m_way, .int (M_lineMany M), .ref a_m_lineFirst, .ref a_m_lineLast, .ref a_m_left, .ref a_m_pile, .ref a_m_rest, .int (M_notSign M), .int (M_notKind M), .ref a_m_read, .ref a_m_measure, .int (M_measureMany M), .ref a_m_wentBack])) :: (a_m_board, .inl (cJ, 32, .inr (.inl (M_board M)))) :: (a_m_area, .inl (cI, 40, .inl (M_area M))) :: (a_m_x0, .inl (cI, 40, .inl (M_x0 M))) :: (a_m_y0, .inl (cI, 40, .inl (M_y0 M))) :: (a_m_x1, .inl (cI, 40, .inl (M_x1 M))) :: (a_m_y1, .inl (cI, 40, .inl (M_y1 M))) :: (a_m_head, .inl (cI, 40, .inl (M_head M))) :: (a_m_said, .inl (cI, 40, .inl (M_said M))) :: (a_m_low, .inl (cI, 6, .inl (M_low M))) :: (a_m_high, .inl (cI, 6, .inl (M_high M))) :: (a_m_least, .inl (cI, 6, .inl (M_least M))) :: (a_m_price, .inl (cI, 6, .inl (M_price M))) :: (a_m_way, .inl (cI, 40, .inl (M_way M))) :: (a_m_lineFirst, .inl (cI, 32, .inl (M_lineFirst M))) :: (a_m_lineLast, .inl (cI, 32, .inl (M_lineLast M))) :: (a_m_left, .inl (cJ, 32, .inr (.inl (M_left M)))) :: (a_m_pile, .inl (cI, 1920, .inl (M_pile M))) :: (a_m_rest, .inl (cI, 6027, .inl (M_rest M))) :: (a_m_read, .inl (cI, 40, .inl (M_read M))) :: (a_m_measure, .inl (cI, 40, .inl (M_measure M))) :: (a_m_wentBack, .inl (cZ, 40, .inl (M_wentBack M))) :: [])
set_option maxHeartbeats 8000000 in
set_option maxRecDepth 100000 in
theorem law_go {p : Program} {e : Env} {s : State} {m : MethodId} {below : List Frame} {meth : Method} {c : Code} (l : Launch) {b L : Nat} {xs : Nat → Int32} (D : va_G) (cI cJ cZ : ClassId) (a_x a_x_board a_x_board_rows a_x_ruled a_x_ruled_firsts a_x_ruled_firsts_cells a_x_ruled_lasts a_x_ruled_lasts_cells a_x_signs a_x_signs_left a_x_signs_left_rows a_x_signs_queue a_x_signs_queue_cells a_x_signs_facts a_x_signs_facts_cells a_x_signs_places a_x_signs_places_cells a_x_signs_told a_x_signs_told_cells a_x_kinds a_x_kinds_lows a_x_kinds_lows_cells a_x_kinds_highs a_x_kinds_highs_cells a_x_kinds_heights a_x_kinds_heights_cells a_x_kinds_prices a_x_kinds_prices_cells a_x_reading a_x_reading_costs a_x_reading_costs_cells a_x_reading_nexts a_x_reading_nexts_cells a_x_reading_rests a_x_reading_rests_cells a_x_reading_aheads a_x_reading_aheads_cells a_x_reading_coming a_x_reading_coming_cells a_x_reading_meanings a_x_reading_meanings_cells a_x_reading_doubts a_x_reading_doubts_cells a_x_reading_measureOf a_x_reading_measureOf_cells a_x_reading_times a_x_reading_times_cells a_x_ways a_x_ways_signs a_x_ways_signs_cells a_x_ways_gone a_x_ways_gone_cells a_m a_m_board a_m_area a_m_x0 a_m_y0 a_m_x1 a_m_y1 a_m_head a_m_said a_m_low a_m_high a_m_least a_m_price a_m_way a_m_lineFirst a_m_lineLast a_m_left a_m_pile a_m_rest a_m_read a_m_measure a_m_wentBack : Nat) (A : Nat → Prop) (S : CallFix p m c code 4 s #[Value.ref b] lw_tbl RL) (hr : meth.sig.returnType = ret) (hlocks : meth.locks = false) (hX : va_X b L xs s s.heap) (hbl : b < s.heap.size) (hbA : ¬ A b) (hAs : ∀ q, A q → s.heap.size ≤ q) (hA : ∀ q, s.heap.size ≤ q → A q) (hK : va_K D vwCl (zT cI cJ cZ) s) (K : Nat) (X : XT) (M : MT) (h : p_L_go K L xs X M = some 1) (H : Heap) (locs : List Loc) (ls : Array Slot) (hw : zW D A s H locs (wd_L cI cJ cZ a_x a_x_board a_x_board_rows a_x_ruled a_x_ruled_firsts a_x_ruled_firsts_cells a_x_ruled_lasts a_x_ruled_lasts_cells a_x_signs a_x_signs_left a_x_signs_left_rows a_x_signs_queue a_x_signs_queue_cells a_x_signs_facts a_x_signs_facts_cells a_x_signs_places a_x_signs_places_cells a_x_signs_told a_x_signs_told_cells a_x_kinds a_x_kinds_lows a_x_kinds_lows_cells a_x_kinds_highs a_x_kinds_highs_cells a_x_kinds_heights a_x_kinds_heights_cells a_x_kinds_prices a_x_kinds_prices_cells a_x_reading a_x_reading_costs a_x_reading_costs_cells a_x_reading_nexts a_x_reading_nexts_cells a_x_reading_rests a_x_reading_rests_cells a_x_reading_aheads a_x_reading_aheads_cells a_x_reading_coming a_x_reading_coming_cells a_x_reading_meanings a_x_reading_meanings_cells a_x_reading_doubts a_x_reading_doubts_cells a_x_reading_measureOf a_x_reading_measureOf_cells a_x_reading_times a_x_reading_times_cells a_x_ways a_x_ways_signs a_x_ways_signs_cells a_x_ways_gone a_x_ways_gone_cells a_m a_m_board a_m_area a_m_x0 a_m_y0 a_m_x1 a_m_y1 a_m_head a_m_said a_m_low a_m_high a_m_least a_m_price a_m_way a_m_lineFirst a_m_lineLast a_m_left a_m_pile a_m_rest a_m_read a_m_measure a_m_wentBack X M)) (hl : lv_has ls 4 [(2, .ref a_m), (1, .ref a_x), (0, .ref b)]) : W p l e room_1 s m #[Value.ref b] below meth c H locs 74 8698 (lw_Z below #[Value.ref b] s) (F0 m 16 ls []) := by
  refine lv_iconst (v := 0) S.1 S.2.1 dL_law_16 (by decide) ?_
  refine lv_istore_n (lv' := [(3, .int 0), (2, .ref a_m), (1, .ref a_x), (0, .ref b)]) S.1 S.2.1 dL_law_17 rfl hl (by decide) rfl (fun ls hl => ?_)
  have L_18 : ∀ (n18_3 : Nat) (X1 : XT) (M2 : MT) (x3 : Int32) (h : z_lp3 (p_L_law_l18 L xs K) n18_3 X1 M2 x3 = some 1) (H : Heap) (locs : List Loc) (ls : Array Slot), zW D A s H locs (wd_L cI cJ cZ a_x a_x_board a_x_board_rows a_x_ruled a_x_ruled_firsts a_x_ruled_firsts_cells a_x_ruled_lasts a_x_ruled_lasts_cells a_x_signs a_x_signs_left a_x_signs_left_rows a_x_signs_queue a_x_signs_queue_cells a_x_signs_facts a_x_signs_facts_cells a_x_signs_places a_x_signs_places_cells a_x_signs_told a_x_signs_told_cells a_x_kinds a_x_kinds_lows a_x_kinds_lows_cells a_x_kinds_highs a_x_kinds_highs_cells a_x_kinds_heights a_x_kinds_heights_cells a_x_kinds_prices a_x_kinds_prices_cells a_x_reading a_x_reading_costs a_x_reading_costs_cells a_x_reading_nexts a_x_reading_nexts_cells a_x_reading_rests a_x_reading_rests_cells a_x_reading_aheads a_x_reading_aheads_cells a_x_reading_coming a_x_reading_coming_cells a_x_reading_meanings a_x_reading_meanings_cells a_x_reading_doubts a_x_reading_doubts_cells a_x_reading_measureOf a_x_reading_measureOf_cells a_x_reading_times a_x_reading_times_cells a_x_ways a_x_ways_signs a_x_ways_signs_cells a_x_ways_gone a_x_ways_gone_cells a_m a_m_board a_m_area a_m_x0 a_m_y0 a_m_x1 a_m_y1 a_m_head a_m_said a_m_low a_m_high a_m_least a_m_price a_m_way a_m_lineFirst a_m_lineLast a_m_left a_m_pile a_m_rest a_m_read a_m_measure a_m_wentBack X1 M2) → lv_has ls 4 [(0, .ref b), (1, .ref a_x), (2, .ref a_m), (3, .int x3)] → W p l e room_1 s m #[Value.ref b] below meth c H locs 74 8698 (lw_Z below #[Value.ref b] s) (F0 m 18 ls []) := by
    intro n18_3
    induction n18_3 with
    | zero => intro X1 M2 x3 h; exact z_no h
    | succ n18_3 ih_18 =>
      intro X1 M2 x3 h H locs ls hw hl
      replace h : (p_L_law_l18 L xs K) (z_lp3 (p_L_law_l18 L xs K) n18_3) X1 M2 x3 = some 1 := h
      refine lv_iload_n S.1 S.2.1 dL_law_18 rfl (lv_at hl 3 rfl) ?_
      refine lv_aload_n S.1 S.2.1 dL_law_19 rfl (lv_at hl 0 rfl) ?_
      refine va_slen S.1 S.2.1 hX hbl hbA hw.2.2 dL_law_20 ?_
      refine lv_bipush (v := 6) S.1 S.2.1 dL_law_21 (by decide) ?_
      refine lv_isub S.1 S.2.1 dL_law_23 ?_
      refine z_icmp_gt S (tgt := 760) h dL_law_24 (by decide) (fun h => ?_) (fun h => ?_)
      · refine lv_iconst (v := 1) S.1 S.2.1 dL_law_760 (by decide) ?_
        refine va_forget (fun q hq => hAs _ (hw.2.2.2.2 q hq)) ?_
        exact lw_ret S.1 S.2.1 hr hlocks dL_law_761
      · refine lv_aload_n S.1 S.2.1 dL_law_27 rfl (lv_at hl 0 rfl) ?_
        refine lv_iload_n S.1 S.2.1 dL_law_28 rfl (lv_at hl 3 rfl) ?_
        obtain ⟨hin, h⟩ := z_ald_e h
        refine va_sld S.1 S.2.1 hX hbl hbA hw.2.2 hin dL_law_29 ?_
        obtain ⟨y4, ey⟩ : ∃ y, y = xs (x3).toNatClampNeg := ⟨_, rfl⟩
        rw [← ey] at h ⊢
        clear ey
        refine lv_bipush (v := 31) S.1 S.2.1 dL_law_30 (by decide) ?_
        refine lv_iand S.1 S.2.1 dL_law_32 ?_
        refine z_ife h (fun e33_0 h => ?_) (fun ne33_0 h => ?_)
        · refine lv_tableIn (tgt := 128) S.1 S.2.1 dL_law_33 (by rw [e33_0]; decide) (by rw [e33_0]; decide) (by rw [e33_0]; rfl) (by decide) ?_
          refine lv_aload_n S.1 S.2.1 dL_law_128 rfl (lv_at hl 1 rfl) ?_
          refine lv_aload_n S.1 S.2.1 dL_law_129 rfl (lv_at hl 0 rfl) ?_
          refine lv_iload_n S.1 S.2.1 dL_law_130 rfl (lv_at hl 3 rfl) ?_
          refine lv_iconst (v := 1) S.1 S.2.1 dL_law_131 (by decide) ?_
          refine lv_iadd S.1 S.2.1 dL_law_132 ?_
          obtain ⟨hin, h⟩ := z_ald_e h
          refine va_sld S.1 S.2.1 hX hbl hbA hw.2.2 hin dL_law_133 ?_
          obtain ⟨y5, ey⟩ : ∃ y, y = xs ((x3 + 1)).toNatClampNeg := ⟨_, rfl⟩
          rw [← ey] at h ⊢
          clear ey
          refine lv_aload_n S.1 S.2.1 dL_law_134 rfl (lv_at hl 0 rfl) ?_
          refine lv_iload_n S.1 S.2.1 dL_law_135 rfl (lv_at hl 3 rfl) ?_
          refine lv_iconst (v := 2) S.1 S.2.1 dL_law_136 (by decide) ?_
          refine lv_iadd S.1 S.2.1 dL_law_137 ?_
          obtain ⟨hin, h⟩ := z_ald_e h
          refine va_sld S.1 S.2.1 hX hbl hbA hw.2.2 hin dL_law_138 ?_
          obtain ⟨y6, ey⟩ : ∃ y, y = xs ((x3 + 2)).toNatClampNeg := ⟨_, rfl⟩
          rw [← ey] at h ⊢
          clear ey
          refine lv_i2l (v := y6.toInt64) S.1 S.2.1 dL_law_139 rfl ?_
          refine lv_bipush (v := 32) S.1 S.2.1 dL_law_140 (by decide) ?_
          refine lv_lshl (v := (((y6.toInt64) <<< ((32 : Int32).toInt64 &&& 63)))) S.1 S.2.1 dL_law_142 rfl ?_
          refine lv_aload_n S.1 S.2.1 dL_law_143 rfl (lv_at hl 0 rfl) ?_
          refine lv_iload_n S.1 S.2.1 dL_law_144 rfl (lv_at hl 3 rfl) ?_
          refine lv_iconst (v := 3) S.1 S.2.1 dL_law_145 (by decide) ?_
          refine lv_iadd S.1 S.2.1 dL_law_146 ?_
          obtain ⟨hin, h⟩ := z_ald_e h
          refine va_sld S.1 S.2.1 hX hbl hbA hw.2.2 hin dL_law_147 ?_
          obtain ⟨y7, ey⟩ : ∃ y, y = xs ((x3 + 3)).toNatClampNeg := ⟨_, rfl⟩
          rw [← ey] at h ⊢
          clear ey
          refine lv_i2l (v := y7.toInt64) S.1 S.2.1 dL_law_148 rfl ?_
          refine lv_ldc2 (v := 4294967295) S.1 S.2.1 S.2.2.2.1 (S.2.2.2.2 _ (GW_in gw_974)) dL_law_149 ?_
          refine lv_land S.1 S.2.1 dL_law_152 ?_
          refine lv_lor S.1 S.2.1 dL_law_153 ?_
          obtain ⟨y8, X9, hc, h⟩ := z_b2_e h
          obtain ⟨t10, t11, hc1, hX1⟩ := X_c_row_e hc
          refine z_callVi (As := [.int y5, .long ((((y6.toInt64) <<< ((32 : Int32).toInt64 &&& 63))) ||| ((y7.toInt64) &&& 4294967295))]) (rest := []) S (c_X7_row l D cI cJ cZ a_x a_x_board a_x_board_rows a_x_ruled a_x_signs a_x_kinds a_x_reading a_x_ways (X_leastRun X1) (X_found X1) (X_readingIsOld X1) (X_board_rows X1) y5 ((((y6.toInt64) <<< ((32 : Int32).toInt64 &&& 63))) ||| ((y7.toInt64) &&& 4294967295)) _ hc1) (cwV 2 S.2.2.2.2 (gl_V gw_268 gw_269 gw_270 gw_50 gw_271) rfl rfl rfl hd_X7_row ⟨Nat.le_of_ble_eq_true rfl, Nat.le_of_ble_eq_true rfl⟩) hK hA hw [0, 1, 2] (by decide) rfl rfl (some 0 :: some 1 :: some 2 :: none :: none :: none :: none :: none :: none :: none :: none :: none :: none :: none :: none :: none :: none :: none :: none :: none :: none :: none :: none :: none :: none :: none :: none :: none :: none :: none :: none :: none :: none :: none :: none :: none :: none :: none :: none :: none :: none :: none :: none :: none :: none :: none :: none :: none :: none :: none :: none :: none :: none :: none :: none :: none :: none :: none :: none :: none :: none :: none :: none :: none :: none :: none :: none :: none :: none :: none :: none :: none :: none :: none :: []) rfl (by decide) 0 rfl rfl hl.1 rfl rfl (lv_room (Nat.le_of_ble_eq_true rfl)) ⟨Nat.le_of_ble_eq_true rfl, Nat.le_of_ble_eq_true rfl⟩ dL_law_154 (fun H locs hw => ?_)
          replace hw : zW D A s H locs (wd_L cI cJ cZ a_x a_x_board a_x_board_rows a_x_ruled a_x_ruled_firsts a_x_ruled_firsts_cells a_x_ruled_lasts a_x_ruled_lasts_cells a_x_signs a_x_signs_left a_x_signs_left_rows a_x_signs_queue a_x_signs_queue_cells a_x_signs_facts a_x_signs_facts_cells a_x_signs_places a_x_signs_places_cells a_x_signs_told a_x_signs_told_cells a_x_kinds a_x_kinds_lows a_x_kinds_lows_cells a_x_kinds_highs a_x_kinds_highs_cells a_x_kinds_heights a_x_kinds_heights_cells a_x_kinds_prices a_x_kinds_prices_cells a_x_reading a_x_reading_costs a_x_reading_costs_cells a_x_reading_nexts a_x_reading_nexts_cells a_x_reading_rests a_x_reading_rests_cells a_x_reading_aheads a_x_reading_aheads_cells a_x_reading_coming a_x_reading_coming_cells a_x_reading_meanings a_x_reading_meanings_cells a_x_reading_doubts a_x_reading_doubts_cells a_x_reading_measureOf a_x_reading_measureOf_cells a_x_reading_times a_x_reading_times_cells a_x_ways a_x_ways_signs a_x_ways_signs_cells a_x_ways_gone a_x_ways_gone_cells a_m a_m_board a_m_area a_m_x0 a_m_y0 a_m_x1 a_m_y1 a_m_head a_m_said a_m_low a_m_high a_m_least a_m_price a_m_way a_m_lineFirst a_m_lineLast a_m_left a_m_pile a_m_rest a_m_read a_m_measure a_m_wentBack X9 M2) := by rw [hX1]; exact hw
          clear hX1 hc hc1
          refine lv_pop S.1 S.2.1 dL_law_157 rfl ?_
          refine lv_aload_n S.1 S.2.1 dL_law_158 rfl (lv_at hl 2 rfl) ?_
          refine lv_aload_n S.1 S.2.1 dL_law_159 rfl (lv_at hl 0 rfl) ?_
          refine lv_iload_n S.1 S.2.1 dL_law_160 rfl (lv_at hl 3 rfl) ?_
          refine lv_iconst (v := 1) S.1 S.2.1 dL_law_161 (by decide) ?_
          refine lv_iadd S.1 S.2.1 dL_law_162 ?_
          obtain ⟨hin, h⟩ := z_ald_e h
          refine va_sld S.1 S.2.1 hX hbl hbA hw.2.2 hin dL_law_163 ?_
          obtain ⟨y12, ey⟩ : ∃ y, y = xs ((x3 + 1)).toNatClampNeg := ⟨_, rfl⟩
          rw [← ey] at h ⊢
          clear ey
          refine lv_aload_n S.1 S.2.1 dL_law_164 rfl (lv_at hl 0 rfl) ?_
          refine lv_iload_n S.1 S.2.1 dL_law_165 rfl (lv_at hl 3 rfl) ?_
          refine lv_iconst (v := 2) S.1 S.2.1 dL_law_166 (by decide) ?_
          refine lv_iadd S.1 S.2.1 dL_law_167 ?_
          obtain ⟨hin, h⟩ := z_ald_e h
          refine va_sld S.1 S.2.1 hX hbl hbA hw.2.2 hin dL_law_168 ?_
          obtain ⟨y13, ey⟩ : ∃ y, y = xs ((x3 + 2)).toNatClampNeg := ⟨_, rfl⟩
          rw [← ey] at h ⊢
          clear ey
          refine lv_i2l (v := y13.toInt64) S.1 S.2.1 dL_law_169 rfl ?_
          refine lv_bipush (v := 32) S.1 S.2.1 dL_law_170 (by decide) ?_
          refine lv_lshl (v := (((y13.toInt64) <<< ((32 : Int32).toInt64 &&& 63)))) S.1 S.2.1 dL_law_172 rfl ?_
          refine lv_aload_n S.1 S.2.1 dL_law_173 rfl (lv_at hl 0 rfl) ?_
          refine lv_iload_n S.1 S.2.1 dL_law_174 rfl (lv_at hl 3 rfl) ?_
          refine lv_iconst (v := 3) S.1 S.2.1 dL_law_175 (by decide) ?_
          refine lv_iadd S.1 S.2.1 dL_law_176 ?_
          obtain ⟨hin, h⟩ := z_ald_e h
          refine va_sld S.1 S.2.1 hX hbl hbA hw.2.2 hin dL_law_177 ?_
          obtain ⟨y14, ey⟩ : ∃ y, y = xs ((x3 + 3)).toNatClampNeg := ⟨_, rfl⟩
          rw [← ey] at h ⊢
          clear ey
          refine lv_i2l (v := y14.toInt64) S.1 S.2.1 dL_law_178 rfl ?_
          refine lv_ldc2 (v := 4294967295) S.1 S.2.1 S.2.2.2.1 (S.2.2.2.2 _ (GW_in gw_974)) dL_law_179 ?_
          refine lv_land S.1 S.2.1 dL_law_182 ?_
          refine lv_lor S.1 S.2.1 dL_law_183 ?_
          obtain ⟨y15, M16, hc, h⟩ := z_b2_e h
          obtain ⟨t17, t18, hc1, hX1⟩ := M_c_row_e hc
          refine z_callVi (As := [.int y12, .long ((((y13.toInt64) <<< ((32 : Int32).toInt64 &&& 63))) ||| ((y14.toInt64) &&& 4294967295))]) (rest := []) S (c_X8_row l D cI cJ cZ a_m a_m_board a_m_area a_m_x0 a_m_y0 a_m_x1 a_m_y1 a_m_head a_m_said a_m_low a_m_high a_m_least a_m_price a_m_way a_m_lineFirst a_m_lineLast a_m_left a_m_pile a_m_rest a_m_read a_m_measure a_m_wentBack (M_run M2) (M_signs M2) (M_lastSigns M2) (M_dirt M2) (M_time M2) (M_lineMany M2) (M_notSign M2) (M_notKind M2) (M_measureMany M2) (M_board M2) K y12 ((((y13.toInt64) <<< ((32 : Int32).toInt64 &&& 63))) ||| ((y14.toInt64) &&& 4294967295)) _ hc1) (cwV 2 S.2.2.2.2 (gl_V gw_803 gw_804 gw_805 gw_58 gw_806) rfl rfl rfl hd_X8_row ⟨Nat.le_of_ble_eq_true rfl, Nat.le_of_ble_eq_true rfl⟩) hK hA hw [52, 53] (by decide) rfl rfl (none :: none :: none :: none :: none :: none :: none :: none :: none :: none :: none :: none :: none :: none :: none :: none :: none :: none :: none :: none :: none :: none :: none :: none :: none :: none :: none :: none :: none :: none :: none :: none :: none :: none :: none :: none :: none :: none :: none :: none :: none :: none :: none :: none :: none :: none :: none :: none :: none :: none :: none :: none :: some 0 :: some 1 :: none :: none :: none :: none :: none :: none :: none :: none :: none :: none :: none :: none :: none :: none :: none :: none :: none :: none :: none :: none :: []) rfl (by decide) 52 rfl rfl hl.1 rfl rfl (lv_room (Nat.le_of_ble_eq_true rfl)) ⟨Nat.le_of_ble_eq_true rfl, Nat.le_of_ble_eq_true rfl⟩ dL_law_184 (fun H locs hw => ?_)
          replace hw : zW D A s H locs (wd_L cI cJ cZ a_x a_x_board a_x_board_rows a_x_ruled a_x_ruled_firsts a_x_ruled_firsts_cells a_x_ruled_lasts a_x_ruled_lasts_cells a_x_signs a_x_signs_left a_x_signs_left_rows a_x_signs_queue a_x_signs_queue_cells a_x_signs_facts a_x_signs_facts_cells a_x_signs_places a_x_signs_places_cells a_x_signs_told a_x_signs_told_cells a_x_kinds a_x_kinds_lows a_x_kinds_lows_cells a_x_kinds_highs a_x_kinds_highs_cells a_x_kinds_heights a_x_kinds_heights_cells a_x_kinds_prices a_x_kinds_prices_cells a_x_reading a_x_reading_costs a_x_reading_costs_cells a_x_reading_nexts a_x_reading_nexts_cells a_x_reading_rests a_x_reading_rests_cells a_x_reading_aheads a_x_reading_aheads_cells a_x_reading_coming a_x_reading_coming_cells a_x_reading_meanings a_x_reading_meanings_cells a_x_reading_doubts a_x_reading_doubts_cells a_x_reading_measureOf a_x_reading_measureOf_cells a_x_reading_times a_x_reading_times_cells a_x_ways a_x_ways_signs a_x_ways_signs_cells a_x_ways_gone a_x_ways_gone_cells a_m a_m_board a_m_area a_m_x0 a_m_y0 a_m_x1 a_m_y1 a_m_head a_m_said a_m_low a_m_high a_m_least a_m_price a_m_way a_m_lineFirst a_m_lineLast a_m_left a_m_pile a_m_rest a_m_read a_m_measure a_m_wentBack X9 M16) := by rw [hX1]; exact hw
          clear hX1 hc hc1
          refine lv_pop S.1 S.2.1 dL_law_187 rfl ?_
          refine lv_goto (tgt := 754) S.1 S.2.1 dL_law_188 (by decide) ?_
          refine z_iinc S (i := 3) (k := 3) (v := x3 + 6) hl rfl (by decide) rfl (fun v => (3, .int v) :: [(0, .ref b), (1, .ref a_x), (2, .ref a_m)]) (fun _ => rfl) h dL_law_754 (fun y19 ls hl h => ?_)
          replace hl : lv_has ls 4 [(3, .int y19), (0, .ref b), (1, .ref a_x), (2, .ref a_m)] := hl
          refine lv_goto (tgt := 18) S.1 S.2.1 dL_law_757 (by decide) ?_
          exact ih_18 X9 M16 y19 h _ _ ls hw (lv_sub hl [1, 2, 3, 0] rfl)
        refine z_ife h (fun e33_1 h => ?_) (fun ne33_1 h => ?_)
        · refine lv_tableIn (tgt := 191) S.1 S.2.1 dL_law_33 (by rw [e33_1]; decide) (by rw [e33_1]; decide) (by rw [e33_1]; rfl) (by decide) ?_
          refine lv_aload_n S.1 S.2.1 dL_law_191 rfl (lv_at hl 1 rfl) ?_
          refine lv_aload_n S.1 S.2.1 dL_law_192 rfl (lv_at hl 0 rfl) ?_
          refine lv_iload_n S.1 S.2.1 dL_law_193 rfl (lv_at hl 3 rfl) ?_
          refine lv_iconst (v := 1) S.1 S.2.1 dL_law_194 (by decide) ?_
          refine lv_iadd S.1 S.2.1 dL_law_195 ?_
          obtain ⟨hin, h⟩ := z_ald_e h
          refine va_sld S.1 S.2.1 hX hbl hbA hw.2.2 hin dL_law_196 ?_
          obtain ⟨y20, ey⟩ : ∃ y, y = xs ((x3 + 1)).toNatClampNeg := ⟨_, rfl⟩
          rw [← ey] at h ⊢
          clear ey
          refine lv_aload_n S.1 S.2.1 dL_law_197 rfl (lv_at hl 0 rfl) ?_
          refine lv_iload_n S.1 S.2.1 dL_law_198 rfl (lv_at hl 3 rfl) ?_
          refine lv_iconst (v := 2) S.1 S.2.1 dL_law_199 (by decide) ?_
          refine lv_iadd S.1 S.2.1 dL_law_200 ?_
          obtain ⟨hin, h⟩ := z_ald_e h
          refine va_sld S.1 S.2.1 hX hbl hbA hw.2.2 hin dL_law_201 ?_
          obtain ⟨y21, ey⟩ : ∃ y, y = xs ((x3 + 2)).toNatClampNeg := ⟨_, rfl⟩
          rw [← ey] at h ⊢
          clear ey
          refine lv_aload_n S.1 S.2.1 dL_law_202 rfl (lv_at hl 0 rfl) ?_
          refine lv_iload_n S.1 S.2.1 dL_law_203 rfl (lv_at hl 3 rfl) ?_
          refine lv_iconst (v := 3) S.1 S.2.1 dL_law_204 (by decide) ?_
          refine lv_iadd S.1 S.2.1 dL_law_205 ?_
          obtain ⟨hin, h⟩ := z_ald_e h
          refine va_sld S.1 S.2.1 hX hbl hbA hw.2.2 hin dL_law_206 ?_
          obtain ⟨y22, ey⟩ : ∃ y, y = xs ((x3 + 3)).toNatClampNeg := ⟨_, rfl⟩
          rw [← ey] at h ⊢
          clear ey
          refine lv_aload_n S.1 S.2.1 dL_law_207 rfl (lv_at hl 0 rfl) ?_
          refine lv_iload_n S.1 S.2.1 dL_law_208 rfl (lv_at hl 3 rfl) ?_
          refine lv_iconst (v := 4) S.1 S.2.1 dL_law_209 (by decide) ?_
          refine lv_iadd S.1 S.2.1 dL_law_210 ?_
          obtain ⟨hin, h⟩ := z_ald_e h
          refine va_sld S.1 S.2.1 hX hbl hbA hw.2.2 hin dL_law_211 ?_
          obtain ⟨y23, ey⟩ : ∃ y, y = xs ((x3 + 4)).toNatClampNeg := ⟨_, rfl⟩
          rw [← ey] at h ⊢
          clear ey
          refine lv_aload_n S.1 S.2.1 dL_law_212 rfl (lv_at hl 0 rfl) ?_
          refine lv_iload_n S.1 S.2.1 dL_law_213 rfl (lv_at hl 3 rfl) ?_
          refine lv_iconst (v := 5) S.1 S.2.1 dL_law_214 (by decide) ?_
          refine lv_iadd S.1 S.2.1 dL_law_215 ?_
          obtain ⟨hin, h⟩ := z_ald_e h
          refine va_sld S.1 S.2.1 hX hbl hbA hw.2.2 hin dL_law_216 ?_
          obtain ⟨y24, ey⟩ : ∃ y, y = xs ((x3 + 5)).toNatClampNeg := ⟨_, rfl⟩
          rw [← ey] at h ⊢
          clear ey
          have J_225 : ∀ (z25 : Int32) (h : (p_L_law_j225 K X1 y20 y21 y22 y23 L xs x3 M2 (z_lp3 (p_L_law_l18 L xs K) n18_3)) z25 = some 1) (H : Heap) (locs : List Loc) (ls : Array Slot), zW D A s H locs (wd_L cI cJ cZ a_x a_x_board a_x_board_rows a_x_ruled a_x_ruled_firsts a_x_ruled_firsts_cells a_x_ruled_lasts a_x_ruled_lasts_cells a_x_signs a_x_signs_left a_x_signs_left_rows a_x_signs_queue a_x_signs_queue_cells a_x_signs_facts a_x_signs_facts_cells a_x_signs_places a_x_signs_places_cells a_x_signs_told a_x_signs_told_cells a_x_kinds a_x_kinds_lows a_x_kinds_lows_cells a_x_kinds_highs a_x_kinds_highs_cells a_x_kinds_heights a_x_kinds_heights_cells a_x_kinds_prices a_x_kinds_prices_cells a_x_reading a_x_reading_costs a_x_reading_costs_cells a_x_reading_nexts a_x_reading_nexts_cells a_x_reading_rests a_x_reading_rests_cells a_x_reading_aheads a_x_reading_aheads_cells a_x_reading_coming a_x_reading_coming_cells a_x_reading_meanings a_x_reading_meanings_cells a_x_reading_doubts a_x_reading_doubts_cells a_x_reading_measureOf a_x_reading_measureOf_cells a_x_reading_times a_x_reading_times_cells a_x_ways a_x_ways_signs a_x_ways_signs_cells a_x_ways_gone a_x_ways_gone_cells a_m a_m_board a_m_area a_m_x0 a_m_y0 a_m_x1 a_m_y1 a_m_head a_m_said a_m_low a_m_high a_m_least a_m_price a_m_way a_m_lineFirst a_m_lineLast a_m_left a_m_pile a_m_rest a_m_read a_m_measure a_m_wentBack X1 M2) → lv_has ls 4 [(0, .ref b), (1, .ref a_x), (2, .ref a_m), (3, .int x3)] → W p l e room_1 s m #[Value.ref b] below meth c H locs 74 8698 (lw_Z below #[Value.ref b] s) (F0 m 225 ls [.int z25, .int y23, .int y22, .int y21, .int y20, .ref a_x]) := by
            intro z25 h H locs ls hw hl
            obtain ⟨y26, X27, hc, h⟩ := z_b2_e h
            obtain ⟨t28, t29, hc1, hX1⟩ := X_c_ink_e hc
            refine z_callVi (As := [.int y20, .int y21, .int y22, .int y23, .int z25]) (rest := []) S (c_X7_ink l D cI cJ cZ a_x a_x_board a_x_board_rows a_x_ruled a_x_signs a_x_kinds a_x_reading a_x_ways (X_leastRun X1) (X_found X1) (X_readingIsOld X1) (X_board_rows X1) K y20 y21 y22 y23 z25 _ hc1) (cwV 5 S.2.2.2.2 (gl_V gw_286 gw_287 gw_288 gw_50 gw_289) rfl rfl rfl hd_X7_ink ⟨Nat.le_of_ble_eq_true rfl, Nat.le_of_ble_eq_true rfl⟩) hK hA hw [0, 1, 2] (by decide) rfl rfl (some 0 :: some 1 :: some 2 :: none :: none :: none :: none :: none :: none :: none :: none :: none :: none :: none :: none :: none :: none :: none :: none :: none :: none :: none :: none :: none :: none :: none :: none :: none :: none :: none :: none :: none :: none :: none :: none :: none :: none :: none :: none :: none :: none :: none :: none :: none :: none :: none :: none :: none :: none :: none :: none :: none :: none :: none :: none :: none :: none :: none :: none :: none :: none :: none :: none :: none :: none :: none :: none :: none :: none :: none :: none :: none :: none :: none :: []) rfl (by decide) 0 rfl rfl hl.1 rfl rfl (lv_room (Nat.le_of_ble_eq_true rfl)) ⟨Nat.le_of_ble_eq_true rfl, Nat.le_of_ble_eq_true rfl⟩ dL_law_225 (fun H locs hw => ?_)
            replace hw : zW D A s H locs (wd_L cI cJ cZ a_x a_x_board a_x_board_rows a_x_ruled a_x_ruled_firsts a_x_ruled_firsts_cells a_x_ruled_lasts a_x_ruled_lasts_cells a_x_signs a_x_signs_left a_x_signs_left_rows a_x_signs_queue a_x_signs_queue_cells a_x_signs_facts a_x_signs_facts_cells a_x_signs_places a_x_signs_places_cells a_x_signs_told a_x_signs_told_cells a_x_kinds a_x_kinds_lows a_x_kinds_lows_cells a_x_kinds_highs a_x_kinds_highs_cells a_x_kinds_heights a_x_kinds_heights_cells a_x_kinds_prices a_x_kinds_prices_cells a_x_reading a_x_reading_costs a_x_reading_costs_cells a_x_reading_nexts a_x_reading_nexts_cells a_x_reading_rests a_x_reading_rests_cells a_x_reading_aheads a_x_reading_aheads_cells a_x_reading_coming a_x_reading_coming_cells a_x_reading_meanings a_x_reading_meanings_cells a_x_reading_doubts a_x_reading_doubts_cells a_x_reading_measureOf a_x_reading_measureOf_cells a_x_reading_times a_x_reading_times_cells a_x_ways a_x_ways_signs a_x_ways_signs_cells a_x_ways_gone a_x_ways_gone_cells a_m a_m_board a_m_area a_m_x0 a_m_y0 a_m_x1 a_m_y1 a_m_head a_m_said a_m_low a_m_high a_m_least a_m_price a_m_way a_m_lineFirst a_m_lineLast a_m_left a_m_pile a_m_rest a_m_read a_m_measure a_m_wentBack X27 M2) := by rw [hX1]; exact hw
            clear hX1 hc hc1
            refine lv_pop S.1 S.2.1 dL_law_228 rfl ?_
            refine lv_aload_n S.1 S.2.1 dL_law_229 rfl (lv_at hl 2 rfl) ?_
            refine lv_aload_n S.1 S.2.1 dL_law_230 rfl (lv_at hl 0 rfl) ?_
            refine lv_iload_n S.1 S.2.1 dL_law_231 rfl (lv_at hl 3 rfl) ?_
            refine lv_iconst (v := 1) S.1 S.2.1 dL_law_232 (by decide) ?_
            refine lv_iadd S.1 S.2.1 dL_law_233 ?_
            obtain ⟨hin, h⟩ := z_ald_e h
            refine va_sld S.1 S.2.1 hX hbl hbA hw.2.2 hin dL_law_234 ?_
            obtain ⟨y30, ey⟩ : ∃ y, y = xs ((x3 + 1)).toNatClampNeg := ⟨_, rfl⟩
            rw [← ey] at h ⊢
            clear ey
            refine lv_aload_n S.1 S.2.1 dL_law_235 rfl (lv_at hl 0 rfl) ?_
            refine lv_iload_n S.1 S.2.1 dL_law_236 rfl (lv_at hl 3 rfl) ?_
            refine lv_iconst (v := 2) S.1 S.2.1 dL_law_237 (by decide) ?_
            refine lv_iadd S.1 S.2.1 dL_law_238 ?_
            obtain ⟨hin, h⟩ := z_ald_e h
            refine va_sld S.1 S.2.1 hX hbl hbA hw.2.2 hin dL_law_239 ?_
            obtain ⟨y31, ey⟩ : ∃ y, y = xs ((x3 + 2)).toNatClampNeg := ⟨_, rfl⟩
            rw [← ey] at h ⊢
            clear ey
            refine lv_aload_n S.1 S.2.1 dL_law_240 rfl (lv_at hl 0 rfl) ?_
            refine lv_iload_n S.1 S.2.1 dL_law_241 rfl (lv_at hl 3 rfl) ?_
            refine lv_iconst (v := 3) S.1 S.2.1 dL_law_242 (by decide) ?_
            refine lv_iadd S.1 S.2.1 dL_law_243 ?_
            obtain ⟨hin, h⟩ := z_ald_e h
            refine va_sld S.1 S.2.1 hX hbl hbA hw.2.2 hin dL_law_244 ?_
            obtain ⟨y32, ey⟩ : ∃ y, y = xs ((x3 + 3)).toNatClampNeg := ⟨_, rfl⟩
            rw [← ey] at h ⊢
            clear ey
            refine lv_aload_n S.1 S.2.1 dL_law_245 rfl (lv_at hl 0 rfl) ?_
            refine lv_iload_n S.1 S.2.1 dL_law_246 rfl (lv_at hl 3 rfl) ?_
            refine lv_iconst (v := 4) S.1 S.2.1 dL_law_247 (by decide) ?_
            refine lv_iadd S.1 S.2.1 dL_law_248 ?_
            obtain ⟨hin, h⟩ := z_ald_e h
            refine va_sld S.1 S.2.1 hX hbl hbA hw.2.2 hin dL_law_249 ?_
            obtain ⟨y33, ey⟩ : ∃ y, y = xs ((x3 + 4)).toNatClampNeg := ⟨_, rfl⟩
            rw [← ey] at h ⊢
            clear ey
            refine lv_aload_n S.1 S.2.1 dL_law_250 rfl (lv_at hl 0 rfl) ?_
            refine lv_iload_n S.1 S.2.1 dL_law_251 rfl (lv_at hl 3 rfl) ?_
            refine lv_iconst (v := 5) S.1 S.2.1 dL_law_252 (by decide) ?_
            refine lv_iadd S.1 S.2.1 dL_law_253 ?_
            obtain ⟨hin, h⟩ := z_ald_e h
            refine va_sld S.1 S.2.1 hX hbl hbA hw.2.2 hin dL_law_254 ?_
            obtain ⟨y34, ey⟩ : ∃ y, y = xs ((x3 + 5)).toNatClampNeg := ⟨_, rfl⟩
            rw [← ey] at h ⊢
            clear ey
            have J_263 : ∀ (z35 : Int32) (h : (p_L_law_j263 K M2 y30 y31 y32 y33 x3 X27 (z_lp3 (p_L_law_l18 L xs K) n18_3)) z35 = some 1) (H : Heap) (locs : List Loc) (ls : Array Slot), zW D A s H locs (wd_L cI cJ cZ a_x a_x_board a_x_board_rows a_x_ruled a_x_ruled_firsts a_x_ruled_firsts_cells a_x_ruled_lasts a_x_ruled_lasts_cells a_x_signs a_x_signs_left a_x_signs_left_rows a_x_signs_queue a_x_signs_queue_cells a_x_signs_facts a_x_signs_facts_cells a_x_signs_places a_x_signs_places_cells a_x_signs_told a_x_signs_told_cells a_x_kinds a_x_kinds_lows a_x_kinds_lows_cells a_x_kinds_highs a_x_kinds_highs_cells a_x_kinds_heights a_x_kinds_heights_cells a_x_kinds_prices a_x_kinds_prices_cells a_x_reading a_x_reading_costs a_x_reading_costs_cells a_x_reading_nexts a_x_reading_nexts_cells a_x_reading_rests a_x_reading_rests_cells a_x_reading_aheads a_x_reading_aheads_cells a_x_reading_coming a_x_reading_coming_cells a_x_reading_meanings a_x_reading_meanings_cells a_x_reading_doubts a_x_reading_doubts_cells a_x_reading_measureOf a_x_reading_measureOf_cells a_x_reading_times a_x_reading_times_cells a_x_ways a_x_ways_signs a_x_ways_signs_cells a_x_ways_gone a_x_ways_gone_cells a_m a_m_board a_m_area a_m_x0 a_m_y0 a_m_x1 a_m_y1 a_m_head a_m_said a_m_low a_m_high a_m_least a_m_price a_m_way a_m_lineFirst a_m_lineLast a_m_left a_m_pile a_m_rest a_m_read a_m_measure a_m_wentBack X27 M2) → lv_has ls 4 [(0, .ref b), (1, .ref a_x), (2, .ref a_m), (3, .int x3)] → W p l e room_1 s m #[Value.ref b] below meth c H locs 74 8698 (lw_Z below #[Value.ref b] s) (F0 m 263 ls [.int z35, .int y33, .int y32, .int y31, .int y30, .ref a_m]) := by
              intro z35 h H locs ls hw hl
              obtain ⟨y36, M37, hc, h⟩ := z_b2_e h
              obtain ⟨t38, t39, hc1, hX1⟩ := M_c_ink_e hc
              refine z_callVi (As := [.int y30, .int y31, .int y32, .int y33, .int z35]) (rest := []) S (c_X8_ink l D cI cJ cZ a_m a_m_board a_m_area a_m_x0 a_m_y0 a_m_x1 a_m_y1 a_m_head a_m_said a_m_low a_m_high a_m_least a_m_price a_m_way a_m_lineFirst a_m_lineLast a_m_left a_m_pile a_m_rest a_m_read a_m_measure a_m_wentBack (M_run M2) (M_signs M2) (M_lastSigns M2) (M_dirt M2) (M_time M2) (M_lineMany M2) (M_notSign M2) (M_notKind M2) (M_measureMany M2) (M_board M2) K y30 y31 y32 y33 z35 _ hc1) (cwV 5 S.2.2.2.2 (gl_V gw_813 gw_814 gw_815 gw_58 gw_816) rfl rfl rfl hd_X8_ink ⟨Nat.le_of_ble_eq_true rfl, Nat.le_of_ble_eq_true rfl⟩) hK hA hw [52, 53] (by decide) rfl rfl (none :: none :: none :: none :: none :: none :: none :: none :: none :: none :: none :: none :: none :: none :: none :: none :: none :: none :: none :: none :: none :: none :: none :: none :: none :: none :: none :: none :: none :: none :: none :: none :: none :: none :: none :: none :: none :: none :: none :: none :: none :: none :: none :: none :: none :: none :: none :: none :: none :: none :: none :: none :: some 0 :: some 1 :: none :: none :: none :: none :: none :: none :: none :: none :: none :: none :: none :: none :: none :: none :: none :: none :: none :: none :: none :: none :: []) rfl (by decide) 52 rfl rfl hl.1 rfl rfl (lv_room (Nat.le_of_ble_eq_true rfl)) ⟨Nat.le_of_ble_eq_true rfl, Nat.le_of_ble_eq_true rfl⟩ dL_law_263 (fun H locs hw => ?_)
              replace hw : zW D A s H locs (wd_L cI cJ cZ a_x a_x_board a_x_board_rows a_x_ruled a_x_ruled_firsts a_x_ruled_firsts_cells a_x_ruled_lasts a_x_ruled_lasts_cells a_x_signs a_x_signs_left a_x_signs_left_rows a_x_signs_queue a_x_signs_queue_cells a_x_signs_facts a_x_signs_facts_cells a_x_signs_places a_x_signs_places_cells a_x_signs_told a_x_signs_told_cells a_x_kinds a_x_kinds_lows a_x_kinds_lows_cells a_x_kinds_highs a_x_kinds_highs_cells a_x_kinds_heights a_x_kinds_heights_cells a_x_kinds_prices a_x_kinds_prices_cells a_x_reading a_x_reading_costs a_x_reading_costs_cells a_x_reading_nexts a_x_reading_nexts_cells a_x_reading_rests a_x_reading_rests_cells a_x_reading_aheads a_x_reading_aheads_cells a_x_reading_coming a_x_reading_coming_cells a_x_reading_meanings a_x_reading_meanings_cells a_x_reading_doubts a_x_reading_doubts_cells a_x_reading_measureOf a_x_reading_measureOf_cells a_x_reading_times a_x_reading_times_cells a_x_ways a_x_ways_signs a_x_ways_signs_cells a_x_ways_gone a_x_ways_gone_cells a_m a_m_board a_m_area a_m_x0 a_m_y0 a_m_x1 a_m_y1 a_m_head a_m_said a_m_low a_m_high a_m_least a_m_price a_m_way a_m_lineFirst a_m_lineLast a_m_left a_m_pile a_m_rest a_m_read a_m_measure a_m_wentBack X27 M37) := by rw [hX1]; exact hw
              clear hX1 hc hc1
              refine lv_pop S.1 S.2.1 dL_law_266 rfl ?_
              refine lv_goto (tgt := 754) S.1 S.2.1 dL_law_267 (by decide) ?_
              refine z_iinc S (i := 3) (k := 3) (v := x3 + 6) hl rfl (by decide) rfl (fun v => (3, .int v) :: [(0, .ref b), (1, .ref a_x), (2, .ref a_m)]) (fun _ => rfl) h dL_law_754 (fun y40 ls hl h => ?_)
              replace hl : lv_has ls 4 [(3, .int y40), (0, .ref b), (1, .ref a_x), (2, .ref a_m)] := hl
              refine lv_goto (tgt := 18) S.1 S.2.1 dL_law_757 (by decide) ?_
              exact ih_18 X27 M37 y40 h _ _ ls hw (lv_sub hl [1, 2, 3, 0] rfl)
            refine z_if_eq S (tgt := 262) h dL_law_255 (by decide) (fun h => ?_) (fun h => ?_)
            · refine lv_iconst (v := 0) S.1 S.2.1 dL_law_262 (by decide) ?_
              exact J_263 0 h _ _ ls hw (lv_sub hl [0, 1, 2, 3] rfl)
            · refine lv_iconst (v := 1) S.1 S.2.1 dL_law_258 (by decide) ?_
              refine lv_goto (tgt := 263) S.1 S.2.1 dL_law_259 (by decide) ?_
              exact J_263 1 h _ _ ls hw (lv_sub hl [0, 1, 2, 3] rfl)
          refine z_if_eq S (tgt := 224) h dL_law_217 (by decide) (fun h => ?_) (fun h => ?_)
          · refine lv_iconst (v := 0) S.1 S.2.1 dL_law_224 (by decide) ?_
            exact J_225 0 h _ _ ls hw (lv_sub hl [0, 1, 2, 3] rfl)
          · refine lv_iconst (v := 1) S.1 S.2.1 dL_law_220 (by decide) ?_
            refine lv_goto (tgt := 225) S.1 S.2.1 dL_law_221 (by decide) ?_
            exact J_225 1 h _ _ ls hw (lv_sub hl [0, 1, 2, 3] rfl)
        refine z_ife h (fun e33_2 h => ?_) (fun ne33_2 h => ?_)
        · refine lv_tableIn (tgt := 270) S.1 S.2.1 dL_law_33 (by rw [e33_2]; decide) (by rw [e33_2]; decide) (by rw [e33_2]; rfl) (by decide) ?_
          refine lv_aload_n S.1 S.2.1 dL_law_270 rfl (lv_at hl 1 rfl) ?_
          refine lv_aload_n S.1 S.2.1 dL_law_271 rfl (lv_at hl 0 rfl) ?_
          refine lv_iload_n S.1 S.2.1 dL_law_272 rfl (lv_at hl 3 rfl) ?_
          refine lv_iconst (v := 1) S.1 S.2.1 dL_law_273 (by decide) ?_
          refine lv_iadd S.1 S.2.1 dL_law_274 ?_
          obtain ⟨hin, h⟩ := z_ald_e h
          refine va_sld S.1 S.2.1 hX hbl hbA hw.2.2 hin dL_law_275 ?_
          obtain ⟨y41, ey⟩ : ∃ y, y = xs ((x3 + 1)).toNatClampNeg := ⟨_, rfl⟩
          rw [← ey] at h ⊢
          clear ey
          obtain ⟨y42, X43, hc, h⟩ := z_b2_e h
          obtain ⟨t44, t45, hc1, hX1⟩ := X_c_run_e hc
          refine z_callVi (As := [.int y41]) (rest := []) S (c_X7_run l D cI cJ cZ a_x a_x_board a_x_ruled a_x_signs a_x_kinds a_x_reading a_x_ways (X_leastRun X1) (X_found X1) (X_readingIsOld X1) y41 _ hc1) (cwV 1 S.2.2.2.2 (gl_V gw_301 gw_302 gw_303 gw_50 gw_304) rfl rfl rfl hd_X7_run ⟨Nat.le_of_ble_eq_true rfl, Nat.le_of_ble_eq_true rfl⟩) hK hA hw [0] (by decide) rfl rfl (some 0 :: none :: none :: none :: none :: none :: none :: none :: none :: none :: none :: none :: none :: none :: none :: none :: none :: none :: none :: none :: none :: none :: none :: none :: none :: none :: none :: none :: none :: none :: none :: none :: none :: none :: none :: none :: none :: none :: none :: none :: none :: none :: none :: none :: none :: none :: none :: none :: none :: none :: none :: none :: none :: none :: none :: none :: none :: none :: none :: none :: none :: none :: none :: none :: none :: none :: none :: none :: none :: none :: none :: none :: none :: none :: []) rfl (by decide) 0 rfl rfl hl.1 rfl rfl (lv_room (Nat.le_of_ble_eq_true rfl)) ⟨Nat.le_of_ble_eq_true rfl, Nat.le_of_ble_eq_true rfl⟩ dL_law_276 (fun H locs hw => ?_)
          replace hw : zW D A s H locs (wd_L cI cJ cZ a_x a_x_board a_x_board_rows a_x_ruled a_x_ruled_firsts a_x_ruled_firsts_cells a_x_ruled_lasts a_x_ruled_lasts_cells a_x_signs a_x_signs_left a_x_signs_left_rows a_x_signs_queue a_x_signs_queue_cells a_x_signs_facts a_x_signs_facts_cells a_x_signs_places a_x_signs_places_cells a_x_signs_told a_x_signs_told_cells a_x_kinds a_x_kinds_lows a_x_kinds_lows_cells a_x_kinds_highs a_x_kinds_highs_cells a_x_kinds_heights a_x_kinds_heights_cells a_x_kinds_prices a_x_kinds_prices_cells a_x_reading a_x_reading_costs a_x_reading_costs_cells a_x_reading_nexts a_x_reading_nexts_cells a_x_reading_rests a_x_reading_rests_cells a_x_reading_aheads a_x_reading_aheads_cells a_x_reading_coming a_x_reading_coming_cells a_x_reading_meanings a_x_reading_meanings_cells a_x_reading_doubts a_x_reading_doubts_cells a_x_reading_measureOf a_x_reading_measureOf_cells a_x_reading_times a_x_reading_times_cells a_x_ways a_x_ways_signs a_x_ways_signs_cells a_x_ways_gone a_x_ways_gone_cells a_m a_m_board a_m_area a_m_x0 a_m_y0 a_m_x1 a_m_y1 a_m_head a_m_said a_m_low a_m_high a_m_least a_m_price a_m_way a_m_lineFirst a_m_lineLast a_m_left a_m_pile a_m_rest a_m_read a_m_measure a_m_wentBack X43 M2) := by rw [hX1]; exact hw
          clear hX1 hc hc1
          refine lv_pop S.1 S.2.1 dL_law_279 rfl ?_
          refine lv_aload_n S.1 S.2.1 dL_law_280 rfl (lv_at hl 2 rfl) ?_
          refine lv_aload_n S.1 S.2.1 dL_law_281 rfl (lv_at hl 0 rfl) ?_
          refine lv_iload_n S.1 S.2.1 dL_law_282 rfl (lv_at hl 3 rfl) ?_
          refine lv_iconst (v := 1) S.1 S.2.1 dL_law_283 (by decide) ?_
          refine lv_iadd S.1 S.2.1 dL_law_284 ?_
          obtain ⟨hin, h⟩ := z_ald_e h
          refine va_sld S.1 S.2.1 hX hbl hbA hw.2.2 hin dL_law_285 ?_
          obtain ⟨y46, ey⟩ : ∃ y, y = xs ((x3 + 1)).toNatClampNeg := ⟨_, rfl⟩
          rw [← ey] at h ⊢
          clear ey
          obtain ⟨y47, M48, hc, h⟩ := z_b2_e h
          obtain ⟨t49, t50, hc1, hX1⟩ := M_c_run_e hc
          refine z_callVi (As := [.int y46]) (rest := []) S (c_X8_run l D cI cJ cZ a_m a_m_board a_m_area a_m_x0 a_m_y0 a_m_x1 a_m_y1 a_m_head a_m_said a_m_low a_m_high a_m_least a_m_price a_m_way a_m_lineFirst a_m_lineLast a_m_left a_m_pile a_m_rest a_m_read a_m_measure a_m_wentBack (M_run M2) (M_signs M2) (M_lastSigns M2) (M_dirt M2) (M_time M2) (M_lineMany M2) (M_notSign M2) (M_notKind M2) (M_measureMany M2) y46 _ hc1) (cwV 1 S.2.2.2.2 (gl_V gw_821 gw_822 gw_823 gw_58 gw_824) rfl rfl rfl hd_X8_run ⟨Nat.le_of_ble_eq_true rfl, Nat.le_of_ble_eq_true rfl⟩) hK hA hw [52] (by decide) rfl rfl (none :: none :: none :: none :: none :: none :: none :: none :: none :: none :: none :: none :: none :: none :: none :: none :: none :: none :: none :: none :: none :: none :: none :: none :: none :: none :: none :: none :: none :: none :: none :: none :: none :: none :: none :: none :: none :: none :: none :: none :: none :: none :: none :: none :: none :: none :: none :: none :: none :: none :: none :: none :: some 0 :: none :: none :: none :: none :: none :: none :: none :: none :: none :: none :: none :: none :: none :: none :: none :: none :: none :: none :: none :: none :: none :: []) rfl (by decide) 52 rfl rfl hl.1 rfl rfl (lv_room (Nat.le_of_ble_eq_true rfl)) ⟨Nat.le_of_ble_eq_true rfl, Nat.le_of_ble_eq_true rfl⟩ dL_law_286 (fun H locs hw => ?_)
          replace hw : zW D A s H locs (wd_L cI cJ cZ a_x a_x_board a_x_board_rows a_x_ruled a_x_ruled_firsts a_x_ruled_firsts_cells a_x_ruled_lasts a_x_ruled_lasts_cells a_x_signs a_x_signs_left a_x_signs_left_rows a_x_signs_queue a_x_signs_queue_cells a_x_signs_facts a_x_signs_facts_cells a_x_signs_places a_x_signs_places_cells a_x_signs_told a_x_signs_told_cells a_x_kinds a_x_kinds_lows a_x_kinds_lows_cells a_x_kinds_highs a_x_kinds_highs_cells a_x_kinds_heights a_x_kinds_heights_cells a_x_kinds_prices a_x_kinds_prices_cells a_x_reading a_x_reading_costs a_x_reading_costs_cells a_x_reading_nexts a_x_reading_nexts_cells a_x_reading_rests a_x_reading_rests_cells a_x_reading_aheads a_x_reading_aheads_cells a_x_reading_coming a_x_reading_coming_cells a_x_reading_meanings a_x_reading_meanings_cells a_x_reading_doubts a_x_reading_doubts_cells a_x_reading_measureOf a_x_reading_measureOf_cells a_x_reading_times a_x_reading_times_cells a_x_ways a_x_ways_signs a_x_ways_signs_cells a_x_ways_gone a_x_ways_gone_cells a_m a_m_board a_m_area a_m_x0 a_m_y0 a_m_x1 a_m_y1 a_m_head a_m_said a_m_low a_m_high a_m_least a_m_price a_m_way a_m_lineFirst a_m_lineLast a_m_left a_m_pile a_m_rest a_m_read a_m_measure a_m_wentBack X43 M48) := by rw [hX1]; exact hw
          clear hX1 hc hc1
          refine lv_pop S.1 S.2.1 dL_law_289 rfl ?_
          refine lv_goto (tgt := 754) S.1 S.2.1 dL_law_290 (by decide) ?_
          refine z_iinc S (i := 3) (k := 3) (v := x3 + 6) hl rfl (by decide) rfl (fun v => (3, .int v) :: [(0, .ref b), (1, .ref a_x), (2, .ref a_m)]) (fun _ => rfl) h dL_law_754 (fun y51 ls hl h => ?_)
          replace hl : lv_has ls 4 [(3, .int y51), (0, .ref b), (1, .ref a_x), (2, .ref a_m)] := hl
          refine lv_goto (tgt := 18) S.1 S.2.1 dL_law_757 (by decide) ?_
          exact ih_18 X43 M48 y51 h _ _ ls hw (lv_sub hl [1, 2, 3, 0] rfl)
        refine z_ife h (fun e33_3 h => ?_) (fun ne33_3 h => ?_)
        · refine lv_tableIn (tgt := 293) S.1 S.2.1 dL_law_33 (by rw [e33_3]; decide) (by rw [e33_3]; decide) (by rw [e33_3]; rfl) (by decide) ?_
          refine lv_aload_n S.1 S.2.1 dL_law_293 rfl (lv_at hl 1 rfl) ?_
          refine lv_aload_n S.1 S.2.1 dL_law_294 rfl (lv_at hl 0 rfl) ?_
          refine lv_iload_n S.1 S.2.1 dL_law_295 rfl (lv_at hl 3 rfl) ?_
          refine lv_iconst (v := 1) S.1 S.2.1 dL_law_296 (by decide) ?_
          refine lv_iadd S.1 S.2.1 dL_law_297 ?_
          obtain ⟨hin, h⟩ := z_ald_e h
          refine va_sld S.1 S.2.1 hX hbl hbA hw.2.2 hin dL_law_298 ?_
          obtain ⟨y52, ey⟩ : ∃ y, y = xs ((x3 + 1)).toNatClampNeg := ⟨_, rfl⟩
          rw [← ey] at h ⊢
          clear ey
          refine lv_aload_n S.1 S.2.1 dL_law_299 rfl (lv_at hl 0 rfl) ?_
          refine lv_iload_n S.1 S.2.1 dL_law_300 rfl (lv_at hl 3 rfl) ?_
          refine lv_iconst (v := 2) S.1 S.2.1 dL_law_301 (by decide) ?_
          refine lv_iadd S.1 S.2.1 dL_law_302 ?_
          obtain ⟨hin, h⟩ := z_ald_e h
          refine va_sld S.1 S.2.1 hX hbl hbA hw.2.2 hin dL_law_303 ?_
          obtain ⟨y53, ey⟩ : ∃ y, y = xs ((x3 + 2)).toNatClampNeg := ⟨_, rfl⟩
          rw [← ey] at h ⊢
          clear ey
          obtain ⟨y54, X55, hc, h⟩ := z_b2_e h
          obtain ⟨hc1, hX1⟩ := X_c_dot_e hc
          refine z_callVi (As := [.int y52, .int y53]) (rest := []) S (c_X7_dot l D cI cJ cZ a_x a_x_board a_x_board_rows a_x_ruled a_x_signs a_x_kinds a_x_reading a_x_ways (X_leastRun X1) (X_found X1) (X_readingIsOld X1) (X_board_rows X1) y52 y53 _ hc1) (cwV 2 S.2.2.2.2 (gl_V gw_305 gw_306 gw_307 gw_50 gw_308) rfl rfl rfl hd_X7_dot ⟨Nat.le_of_ble_eq_true rfl, Nat.le_of_ble_eq_true rfl⟩) hK hA hw [0, 1, 2] (by decide) rfl rfl (some 0 :: some 1 :: some 2 :: none :: none :: none :: none :: none :: none :: none :: none :: none :: none :: none :: none :: none :: none :: none :: none :: none :: none :: none :: none :: none :: none :: none :: none :: none :: none :: none :: none :: none :: none :: none :: none :: none :: none :: none :: none :: none :: none :: none :: none :: none :: none :: none :: none :: none :: none :: none :: none :: none :: none :: none :: none :: none :: none :: none :: none :: none :: none :: none :: none :: none :: none :: none :: none :: none :: none :: none :: none :: none :: none :: none :: []) rfl (by decide) 0 rfl rfl hl.1 rfl rfl (lv_room (Nat.le_of_ble_eq_true rfl)) ⟨Nat.le_of_ble_eq_true rfl, Nat.le_of_ble_eq_true rfl⟩ dL_law_304 (fun H locs hw => ?_)
          replace hw : zW D A s H locs (wd_L cI cJ cZ a_x a_x_board a_x_board_rows a_x_ruled a_x_ruled_firsts a_x_ruled_firsts_cells a_x_ruled_lasts a_x_ruled_lasts_cells a_x_signs a_x_signs_left a_x_signs_left_rows a_x_signs_queue a_x_signs_queue_cells a_x_signs_facts a_x_signs_facts_cells a_x_signs_places a_x_signs_places_cells a_x_signs_told a_x_signs_told_cells a_x_kinds a_x_kinds_lows a_x_kinds_lows_cells a_x_kinds_highs a_x_kinds_highs_cells a_x_kinds_heights a_x_kinds_heights_cells a_x_kinds_prices a_x_kinds_prices_cells a_x_reading a_x_reading_costs a_x_reading_costs_cells a_x_reading_nexts a_x_reading_nexts_cells a_x_reading_rests a_x_reading_rests_cells a_x_reading_aheads a_x_reading_aheads_cells a_x_reading_coming a_x_reading_coming_cells a_x_reading_meanings a_x_reading_meanings_cells a_x_reading_doubts a_x_reading_doubts_cells a_x_reading_measureOf a_x_reading_measureOf_cells a_x_reading_times a_x_reading_times_cells a_x_ways a_x_ways_signs a_x_ways_signs_cells a_x_ways_gone a_x_ways_gone_cells a_m a_m_board a_m_area a_m_x0 a_m_y0 a_m_x1 a_m_y1 a_m_head a_m_said a_m_low a_m_high a_m_least a_m_price a_m_way a_m_lineFirst a_m_lineLast a_m_left a_m_pile a_m_rest a_m_read a_m_measure a_m_wentBack X55 M2) := by rw [hX1]; exact hw
          clear hX1 hc hc1
          refine lv_pop S.1 S.2.1 dL_law_307 rfl ?_
          refine lv_aload_n S.1 S.2.1 dL_law_308 rfl (lv_at hl 2 rfl) ?_
          refine lv_aload_n S.1 S.2.1 dL_law_309 rfl (lv_at hl 0 rfl) ?_
          refine lv_iload_n S.1 S.2.1 dL_law_310 rfl (lv_at hl 3 rfl) ?_
          refine lv_iconst (v := 1) S.1 S.2.1 dL_law_311 (by decide) ?_
          refine lv_iadd S.1 S.2.1 dL_law_312 ?_
          obtain ⟨hin, h⟩ := z_ald_e h
          refine va_sld S.1 S.2.1 hX hbl hbA hw.2.2 hin dL_law_313 ?_
          obtain ⟨y56, ey⟩ : ∃ y, y = xs ((x3 + 1)).toNatClampNeg := ⟨_, rfl⟩
          rw [← ey] at h ⊢
          clear ey
          refine lv_aload_n S.1 S.2.1 dL_law_314 rfl (lv_at hl 0 rfl) ?_
          refine lv_iload_n S.1 S.2.1 dL_law_315 rfl (lv_at hl 3 rfl) ?_
          refine lv_iconst (v := 2) S.1 S.2.1 dL_law_316 (by decide) ?_
          refine lv_iadd S.1 S.2.1 dL_law_317 ?_
          obtain ⟨hin, h⟩ := z_ald_e h
          refine va_sld S.1 S.2.1 hX hbl hbA hw.2.2 hin dL_law_318 ?_
          obtain ⟨y57, ey⟩ : ∃ y, y = xs ((x3 + 2)).toNatClampNeg := ⟨_, rfl⟩
          rw [← ey] at h ⊢
          clear ey
          obtain ⟨y58, M59, hc, h⟩ := z_b2_e h
          obtain ⟨hc1, hX1⟩ := M_c_dot_e hc
          refine z_callVi (As := [.int y56, .int y57]) (rest := []) S (c_X8_dot l D cI cJ cZ a_m a_m_board a_m_area a_m_x0 a_m_y0 a_m_x1 a_m_y1 a_m_head a_m_said a_m_low a_m_high a_m_least a_m_price a_m_way a_m_lineFirst a_m_lineLast a_m_left a_m_pile a_m_rest a_m_read a_m_measure a_m_wentBack (M_run M2) (M_signs M2) (M_lastSigns M2) (M_dirt M2) (M_time M2) (M_lineMany M2) (M_notSign M2) (M_notKind M2) (M_measureMany M2) (M_board M2) y56 y57 _ hc1) (cwV 2 S.2.2.2.2 (gl_V gw_825 gw_826 gw_827 gw_58 gw_828) rfl rfl rfl hd_X8_dot ⟨Nat.le_of_ble_eq_true rfl, Nat.le_of_ble_eq_true rfl⟩) hK hA hw [52, 53] (by decide) rfl rfl (none :: none :: none :: none :: none :: none :: none :: none :: none :: none :: none :: none :: none :: none :: none :: none :: none :: none :: none :: none :: none :: none :: none :: none :: none :: none :: none :: none :: none :: none :: none :: none :: none :: none :: none :: none :: none :: none :: none :: none :: none :: none :: none :: none :: none :: none :: none :: none :: none :: none :: none :: none :: some 0 :: some 1 :: none :: none :: none :: none :: none :: none :: none :: none :: none :: none :: none :: none :: none :: none :: none :: none :: none :: none :: none :: none :: []) rfl (by decide) 52 rfl rfl hl.1 rfl rfl (lv_room (Nat.le_of_ble_eq_true rfl)) ⟨Nat.le_of_ble_eq_true rfl, Nat.le_of_ble_eq_true rfl⟩ dL_law_319 (fun H locs hw => ?_)
          replace hw : zW D A s H locs (wd_L cI cJ cZ a_x a_x_board a_x_board_rows a_x_ruled a_x_ruled_firsts a_x_ruled_firsts_cells a_x_ruled_lasts a_x_ruled_lasts_cells a_x_signs a_x_signs_left a_x_signs_left_rows a_x_signs_queue a_x_signs_queue_cells a_x_signs_facts a_x_signs_facts_cells a_x_signs_places a_x_signs_places_cells a_x_signs_told a_x_signs_told_cells a_x_kinds a_x_kinds_lows a_x_kinds_lows_cells a_x_kinds_highs a_x_kinds_highs_cells a_x_kinds_heights a_x_kinds_heights_cells a_x_kinds_prices a_x_kinds_prices_cells a_x_reading a_x_reading_costs a_x_reading_costs_cells a_x_reading_nexts a_x_reading_nexts_cells a_x_reading_rests a_x_reading_rests_cells a_x_reading_aheads a_x_reading_aheads_cells a_x_reading_coming a_x_reading_coming_cells a_x_reading_meanings a_x_reading_meanings_cells a_x_reading_doubts a_x_reading_doubts_cells a_x_reading_measureOf a_x_reading_measureOf_cells a_x_reading_times a_x_reading_times_cells a_x_ways a_x_ways_signs a_x_ways_signs_cells a_x_ways_gone a_x_ways_gone_cells a_m a_m_board a_m_area a_m_x0 a_m_y0 a_m_x1 a_m_y1 a_m_head a_m_said a_m_low a_m_high a_m_least a_m_price a_m_way a_m_lineFirst a_m_lineLast a_m_left a_m_pile a_m_rest a_m_read a_m_measure a_m_wentBack X55 M59) := by rw [hX1]; exact hw
          clear hX1 hc hc1
          refine lv_pop S.1 S.2.1 dL_law_322 rfl ?_
          refine lv_goto (tgt := 754) S.1 S.2.1 dL_law_323 (by decide) ?_
          refine z_iinc S (i := 3) (k := 3) (v := x3 + 6) hl rfl (by decide) rfl (fun v => (3, .int v) :: [(0, .ref b), (1, .ref a_x), (2, .ref a_m)]) (fun _ => rfl) h dL_law_754 (fun y60 ls hl h => ?_)
          replace hl : lv_has ls 4 [(3, .int y60), (0, .ref b), (1, .ref a_x), (2, .ref a_m)] := hl
          refine lv_goto (tgt := 18) S.1 S.2.1 dL_law_757 (by decide) ?_
          exact ih_18 X55 M59 y60 h _ _ ls hw (lv_sub hl [1, 2, 3, 0] rfl)
        refine z_ife h (fun e33_4 h => ?_) (fun ne33_4 h => ?_)
        · refine lv_tableIn (tgt := 326) S.1 S.2.1 dL_law_33 (by rw [e33_4]; decide) (by rw [e33_4]; decide) (by rw [e33_4]; rfl) (by decide) ?_
          refine lv_aload_n S.1 S.2.1 dL_law_326 rfl (lv_at hl 1 rfl) ?_
          obtain ⟨y61, X62, hc, h⟩ := z_b2_e h
          obtain ⟨t63, t64, t65, t66, hc1, hX1⟩ := X_c_lines_e hc
          refine z_callVi (As := []) (rest := []) S (c_X7_lines l D cI cJ cZ a_x a_x_board a_x_board_rows a_x_ruled a_x_ruled_firsts a_x_ruled_firsts_cells a_x_ruled_lasts a_x_ruled_lasts_cells a_x_signs a_x_kinds a_x_reading a_x_ways (X_leastRun X1) (X_found X1) (X_readingIsOld X1) (X_board_rows X1) (X_ruled_size X1) (X_ruled_staffStart X1) (X_ruled_firsts_cells X1) (X_ruled_lasts_cells X1) K _ hc1) (cwV 0 S.2.2.2.2 (gl_V gw_313 gw_314 gw_315 gw_50 gw_316) rfl rfl rfl hd_X7_lines ⟨Nat.le_of_ble_eq_true rfl, Nat.le_of_ble_eq_true rfl⟩) hK hA hw [0, 1, 2, 3, 4, 5, 6, 7] (by decide) rfl rfl (some 0 :: some 1 :: some 2 :: some 3 :: some 4 :: some 5 :: some 6 :: some 7 :: none :: none :: none :: none :: none :: none :: none :: none :: none :: none :: none :: none :: none :: none :: none :: none :: none :: none :: none :: none :: none :: none :: none :: none :: none :: none :: none :: none :: none :: none :: none :: none :: none :: none :: none :: none :: none :: none :: none :: none :: none :: none :: none :: none :: none :: none :: none :: none :: none :: none :: none :: none :: none :: none :: none :: none :: none :: none :: none :: none :: none :: none :: none :: none :: none :: none :: []) rfl (by decide) 0 rfl rfl hl.1 rfl rfl (lv_room (Nat.le_of_ble_eq_true rfl)) ⟨Nat.le_of_ble_eq_true rfl, Nat.le_of_ble_eq_true rfl⟩ dL_law_327 (fun H locs hw => ?_)
          replace hw : zW D A s H locs (wd_L cI cJ cZ a_x a_x_board a_x_board_rows a_x_ruled a_x_ruled_firsts a_x_ruled_firsts_cells a_x_ruled_lasts a_x_ruled_lasts_cells a_x_signs a_x_signs_left a_x_signs_left_rows a_x_signs_queue a_x_signs_queue_cells a_x_signs_facts a_x_signs_facts_cells a_x_signs_places a_x_signs_places_cells a_x_signs_told a_x_signs_told_cells a_x_kinds a_x_kinds_lows a_x_kinds_lows_cells a_x_kinds_highs a_x_kinds_highs_cells a_x_kinds_heights a_x_kinds_heights_cells a_x_kinds_prices a_x_kinds_prices_cells a_x_reading a_x_reading_costs a_x_reading_costs_cells a_x_reading_nexts a_x_reading_nexts_cells a_x_reading_rests a_x_reading_rests_cells a_x_reading_aheads a_x_reading_aheads_cells a_x_reading_coming a_x_reading_coming_cells a_x_reading_meanings a_x_reading_meanings_cells a_x_reading_doubts a_x_reading_doubts_cells a_x_reading_measureOf a_x_reading_measureOf_cells a_x_reading_times a_x_reading_times_cells a_x_ways a_x_ways_signs a_x_ways_signs_cells a_x_ways_gone a_x_ways_gone_cells a_m a_m_board a_m_area a_m_x0 a_m_y0 a_m_x1 a_m_y1 a_m_head a_m_said a_m_low a_m_high a_m_least a_m_price a_m_way a_m_lineFirst a_m_lineLast a_m_left a_m_pile a_m_rest a_m_read a_m_measure a_m_wentBack X62 M2) := by rw [hX1]; exact hw
          clear hX1 hc hc1
          refine lv_pop S.1 S.2.1 dL_law_330 rfl ?_
          refine lv_aload_n S.1 S.2.1 dL_law_331 rfl (lv_at hl 2 rfl) ?_
          obtain ⟨y67, M68, hc, h⟩ := z_b2_e h
          obtain ⟨t69, t70, t71, hc1, hX1⟩ := M_c_lines_e hc
          refine z_callVi (As := []) (rest := []) S (c_X8_lines l D cI cJ cZ a_m a_m_board a_m_area a_m_x0 a_m_y0 a_m_x1 a_m_y1 a_m_head a_m_said a_m_low a_m_high a_m_least a_m_price a_m_way a_m_lineFirst a_m_lineLast a_m_left a_m_pile a_m_rest a_m_read a_m_measure a_m_wentBack (M_run M2) (M_signs M2) (M_lastSigns M2) (M_dirt M2) (M_time M2) (M_lineMany M2) (M_notSign M2) (M_notKind M2) (M_measureMany M2) (M_board M2) (M_lineFirst M2) (M_lineLast M2) K _ hc1) (cwV 0 S.2.2.2.2 (gl_V gw_829 gw_830 gw_831 gw_58 gw_832) rfl rfl rfl hd_X8_lines ⟨Nat.le_of_ble_eq_true rfl, Nat.le_of_ble_eq_true rfl⟩) hK hA hw [52, 53, 66, 67] (by decide) rfl rfl (none :: none :: none :: none :: none :: none :: none :: none :: none :: none :: none :: none :: none :: none :: none :: none :: none :: none :: none :: none :: none :: none :: none :: none :: none :: none :: none :: none :: none :: none :: none :: none :: none :: none :: none :: none :: none :: none :: none :: none :: none :: none :: none :: none :: none :: none :: none :: none :: none :: none :: none :: none :: some 0 :: some 1 :: none :: none :: none :: none :: none :: none :: none :: none :: none :: none :: none :: none :: some 2 :: some 3 :: none :: none :: none :: none :: none :: none :: []) rfl (by decide) 52 rfl rfl hl.1 rfl rfl (lv_room (Nat.le_of_ble_eq_true rfl)) ⟨Nat.le_of_ble_eq_true rfl, Nat.le_of_ble_eq_true rfl⟩ dL_law_332 (fun H locs hw => ?_)
          replace hw : zW D A s H locs (wd_L cI cJ cZ a_x a_x_board a_x_board_rows a_x_ruled a_x_ruled_firsts a_x_ruled_firsts_cells a_x_ruled_lasts a_x_ruled_lasts_cells a_x_signs a_x_signs_left a_x_signs_left_rows a_x_signs_queue a_x_signs_queue_cells a_x_signs_facts a_x_signs_facts_cells a_x_signs_places a_x_signs_places_cells a_x_signs_told a_x_signs_told_cells a_x_kinds a_x_kinds_lows a_x_kinds_lows_cells a_x_kinds_highs a_x_kinds_highs_cells a_x_kinds_heights a_x_kinds_heights_cells a_x_kinds_prices a_x_kinds_prices_cells a_x_reading a_x_reading_costs a_x_reading_costs_cells a_x_reading_nexts a_x_reading_nexts_cells a_x_reading_rests a_x_reading_rests_cells a_x_reading_aheads a_x_reading_aheads_cells a_x_reading_coming a_x_reading_coming_cells a_x_reading_meanings a_x_reading_meanings_cells a_x_reading_doubts a_x_reading_doubts_cells a_x_reading_measureOf a_x_reading_measureOf_cells a_x_reading_times a_x_reading_times_cells a_x_ways a_x_ways_signs a_x_ways_signs_cells a_x_ways_gone a_x_ways_gone_cells a_m a_m_board a_m_area a_m_x0 a_m_y0 a_m_x1 a_m_y1 a_m_head a_m_said a_m_low a_m_high a_m_least a_m_price a_m_way a_m_lineFirst a_m_lineLast a_m_left a_m_pile a_m_rest a_m_read a_m_measure a_m_wentBack X62 M68) := by rw [hX1]; exact hw
          clear hX1 hc hc1
          refine lv_pop S.1 S.2.1 dL_law_335 rfl ?_
          refine lv_goto (tgt := 754) S.1 S.2.1 dL_law_336 (by decide) ?_
          refine z_iinc S (i := 3) (k := 3) (v := x3 + 6) hl rfl (by decide) rfl (fun v => (3, .int v) :: [(0, .ref b), (1, .ref a_x), (2, .ref a_m)]) (fun _ => rfl) h dL_law_754 (fun y72 ls hl h => ?_)
          replace hl : lv_has ls 4 [(3, .int y72), (0, .ref b), (1, .ref a_x), (2, .ref a_m)] := hl
          refine lv_goto (tgt := 18) S.1 S.2.1 dL_law_757 (by decide) ?_
          exact ih_18 X62 M68 y72 h _ _ ls hw (lv_sub hl [1, 2, 3, 0] rfl)
        refine z_ife h (fun e33_5 h => ?_) (fun ne33_5 h => ?_)
        · refine lv_tableIn (tgt := 339) S.1 S.2.1 dL_law_33 (by rw [e33_5]; decide) (by rw [e33_5]; decide) (by rw [e33_5]; rfl) (by decide) ?_
          refine lv_aload_n S.1 S.2.1 dL_law_339 rfl (lv_at hl 1 rfl) ?_
          refine lv_aload_n S.1 S.2.1 dL_law_340 rfl (lv_at hl 0 rfl) ?_
          refine lv_iload_n S.1 S.2.1 dL_law_341 rfl (lv_at hl 3 rfl) ?_
          refine lv_iconst (v := 1) S.1 S.2.1 dL_law_342 (by decide) ?_
          refine lv_iadd S.1 S.2.1 dL_law_343 ?_
          obtain ⟨hin, h⟩ := z_ald_e h
          refine va_sld S.1 S.2.1 hX hbl hbA hw.2.2 hin dL_law_344 ?_
          obtain ⟨y73, ey⟩ : ∃ y, y = xs ((x3 + 1)).toNatClampNeg := ⟨_, rfl⟩
          rw [← ey] at h ⊢
          clear ey
          refine lv_aload_n S.1 S.2.1 dL_law_345 rfl (lv_at hl 0 rfl) ?_
          refine lv_iload_n S.1 S.2.1 dL_law_346 rfl (lv_at hl 3 rfl) ?_
          refine lv_iconst (v := 2) S.1 S.2.1 dL_law_347 (by decide) ?_
          refine lv_iadd S.1 S.2.1 dL_law_348 ?_
          obtain ⟨hin, h⟩ := z_ald_e h
          refine va_sld S.1 S.2.1 hX hbl hbA hw.2.2 hin dL_law_349 ?_
          obtain ⟨y74, ey⟩ : ∃ y, y = xs ((x3 + 2)).toNatClampNeg := ⟨_, rfl⟩
          rw [← ey] at h ⊢
          clear ey
          obtain ⟨y75, X76, hc, h⟩ := z_b2_e h
          obtain ⟨t77, t78, t79, t80, hc1, hX1⟩ := X_c_staff_e hc
          refine z_callVi (As := [.int y73, .int y74]) (rest := []) S (c_X7_staff l D cI cJ cZ a_x a_x_board a_x_board_rows a_x_ruled a_x_ruled_firsts a_x_ruled_firsts_cells a_x_ruled_lasts a_x_ruled_lasts_cells a_x_signs a_x_kinds a_x_reading a_x_ways (X_leastRun X1) (X_found X1) (X_readingIsOld X1) (X_board_rows X1) (X_ruled_size X1) (X_ruled_staffStart X1) (X_ruled_firsts_cells X1) (X_ruled_lasts_cells X1) K y73 y74 _ hc1) (cwV 2 S.2.2.2.2 (gl_V gw_355 gw_356 gw_357 gw_50 gw_358) rfl rfl rfl hd_X7_staff ⟨Nat.le_of_ble_eq_true rfl, Nat.le_of_ble_eq_true rfl⟩) hK hA hw [0, 1, 2, 3, 4, 5, 6, 7] (by decide) rfl rfl (some 0 :: some 1 :: some 2 :: some 3 :: some 4 :: some 5 :: some 6 :: some 7 :: none :: none :: none :: none :: none :: none :: none :: none :: none :: none :: none :: none :: none :: none :: none :: none :: none :: none :: none :: none :: none :: none :: none :: none :: none :: none :: none :: none :: none :: none :: none :: none :: none :: none :: none :: none :: none :: none :: none :: none :: none :: none :: none :: none :: none :: none :: none :: none :: none :: none :: none :: none :: none :: none :: none :: none :: none :: none :: none :: none :: none :: none :: none :: none :: none :: none :: []) rfl (by decide) 0 rfl rfl hl.1 rfl rfl (lv_room (Nat.le_of_ble_eq_true rfl)) ⟨Nat.le_of_ble_eq_true rfl, Nat.le_of_ble_eq_true rfl⟩ dL_law_350 (fun H locs hw => ?_)
          replace hw : zW D A s H locs (wd_L cI cJ cZ a_x a_x_board a_x_board_rows a_x_ruled a_x_ruled_firsts a_x_ruled_firsts_cells a_x_ruled_lasts a_x_ruled_lasts_cells a_x_signs a_x_signs_left a_x_signs_left_rows a_x_signs_queue a_x_signs_queue_cells a_x_signs_facts a_x_signs_facts_cells a_x_signs_places a_x_signs_places_cells a_x_signs_told a_x_signs_told_cells a_x_kinds a_x_kinds_lows a_x_kinds_lows_cells a_x_kinds_highs a_x_kinds_highs_cells a_x_kinds_heights a_x_kinds_heights_cells a_x_kinds_prices a_x_kinds_prices_cells a_x_reading a_x_reading_costs a_x_reading_costs_cells a_x_reading_nexts a_x_reading_nexts_cells a_x_reading_rests a_x_reading_rests_cells a_x_reading_aheads a_x_reading_aheads_cells a_x_reading_coming a_x_reading_coming_cells a_x_reading_meanings a_x_reading_meanings_cells a_x_reading_doubts a_x_reading_doubts_cells a_x_reading_measureOf a_x_reading_measureOf_cells a_x_reading_times a_x_reading_times_cells a_x_ways a_x_ways_signs a_x_ways_signs_cells a_x_ways_gone a_x_ways_gone_cells a_m a_m_board a_m_area a_m_x0 a_m_y0 a_m_x1 a_m_y1 a_m_head a_m_said a_m_low a_m_high a_m_least a_m_price a_m_way a_m_lineFirst a_m_lineLast a_m_left a_m_pile a_m_rest a_m_read a_m_measure a_m_wentBack X76 M2) := by rw [hX1]; exact hw
          clear hX1 hc hc1
          refine lv_pop S.1 S.2.1 dL_law_353 rfl ?_
          refine lv_aload_n S.1 S.2.1 dL_law_354 rfl (lv_at hl 2 rfl) ?_
          refine lv_aload_n S.1 S.2.1 dL_law_355 rfl (lv_at hl 0 rfl) ?_
          refine lv_iload_n S.1 S.2.1 dL_law_356 rfl (lv_at hl 3 rfl) ?_
          refine lv_iconst (v := 1) S.1 S.2.1 dL_law_357 (by decide) ?_
          refine lv_iadd S.1 S.2.1 dL_law_358 ?_
          obtain ⟨hin, h⟩ := z_ald_e h
          refine va_sld S.1 S.2.1 hX hbl hbA hw.2.2 hin dL_law_359 ?_
          obtain ⟨y81, ey⟩ : ∃ y, y = xs ((x3 + 1)).toNatClampNeg := ⟨_, rfl⟩
          rw [← ey] at h ⊢
          clear ey
          refine lv_aload_n S.1 S.2.1 dL_law_360 rfl (lv_at hl 0 rfl) ?_
          refine lv_iload_n S.1 S.2.1 dL_law_361 rfl (lv_at hl 3 rfl) ?_
          refine lv_iconst (v := 2) S.1 S.2.1 dL_law_362 (by decide) ?_
          refine lv_iadd S.1 S.2.1 dL_law_363 ?_
          obtain ⟨hin, h⟩ := z_ald_e h
          refine va_sld S.1 S.2.1 hX hbl hbA hw.2.2 hin dL_law_364 ?_
          obtain ⟨y82, ey⟩ : ∃ y, y = xs ((x3 + 2)).toNatClampNeg := ⟨_, rfl⟩
          rw [← ey] at h ⊢
          clear ey
          obtain ⟨y83, M84, hc, h⟩ := z_b2_e h
          obtain ⟨t85, t86, t87, hc1, hX1⟩ := M_c_staff_e hc
          refine z_callVi (As := [.int y81, .int y82]) (rest := []) S (c_X8_staff l D cI cJ cZ a_m a_m_board a_m_area a_m_x0 a_m_y0 a_m_x1 a_m_y1 a_m_head a_m_said a_m_low a_m_high a_m_least a_m_price a_m_way a_m_lineFirst a_m_lineLast a_m_left a_m_pile a_m_rest a_m_read a_m_measure a_m_wentBack (M_run M2) (M_signs M2) (M_lastSigns M2) (M_dirt M2) (M_time M2) (M_lineMany M2) (M_notSign M2) (M_notKind M2) (M_measureMany M2) (M_board M2) (M_lineFirst M2) (M_lineLast M2) K y81 y82 _ hc1) (cwV 2 S.2.2.2.2 (gl_V gw_841 gw_842 gw_843 gw_58 gw_844) rfl rfl rfl hd_X8_staff ⟨Nat.le_of_ble_eq_true rfl, Nat.le_of_ble_eq_true rfl⟩) hK hA hw [52, 53, 66, 67] (by decide) rfl rfl (none :: none :: none :: none :: none :: none :: none :: none :: none :: none :: none :: none :: none :: none :: none :: none :: none :: none :: none :: none :: none :: none :: none :: none :: none :: none :: none :: none :: none :: none :: none :: none :: none :: none :: none :: none :: none :: none :: none :: none :: none :: none :: none :: none :: none :: none :: none :: none :: none :: none :: none :: none :: some 0 :: some 1 :: none :: none :: none :: none :: none :: none :: none :: none :: none :: none :: none :: none :: some 2 :: some 3 :: none :: none :: none :: none :: none :: none :: []) rfl (by decide) 52 rfl rfl hl.1 rfl rfl (lv_room (Nat.le_of_ble_eq_true rfl)) ⟨Nat.le_of_ble_eq_true rfl, Nat.le_of_ble_eq_true rfl⟩ dL_law_365 (fun H locs hw => ?_)
          replace hw : zW D A s H locs (wd_L cI cJ cZ a_x a_x_board a_x_board_rows a_x_ruled a_x_ruled_firsts a_x_ruled_firsts_cells a_x_ruled_lasts a_x_ruled_lasts_cells a_x_signs a_x_signs_left a_x_signs_left_rows a_x_signs_queue a_x_signs_queue_cells a_x_signs_facts a_x_signs_facts_cells a_x_signs_places a_x_signs_places_cells a_x_signs_told a_x_signs_told_cells a_x_kinds a_x_kinds_lows a_x_kinds_lows_cells a_x_kinds_highs a_x_kinds_highs_cells a_x_kinds_heights a_x_kinds_heights_cells a_x_kinds_prices a_x_kinds_prices_cells a_x_reading a_x_reading_costs a_x_reading_costs_cells a_x_reading_nexts a_x_reading_nexts_cells a_x_reading_rests a_x_reading_rests_cells a_x_reading_aheads a_x_reading_aheads_cells a_x_reading_coming a_x_reading_coming_cells a_x_reading_meanings a_x_reading_meanings_cells a_x_reading_doubts a_x_reading_doubts_cells a_x_reading_measureOf a_x_reading_measureOf_cells a_x_reading_times a_x_reading_times_cells a_x_ways a_x_ways_signs a_x_ways_signs_cells a_x_ways_gone a_x_ways_gone_cells a_m a_m_board a_m_area a_m_x0 a_m_y0 a_m_x1 a_m_y1 a_m_head a_m_said a_m_low a_m_high a_m_least a_m_price a_m_way a_m_lineFirst a_m_lineLast a_m_left a_m_pile a_m_rest a_m_read a_m_measure a_m_wentBack X76 M84) := by rw [hX1]; exact hw
          clear hX1 hc hc1
          refine lv_pop S.1 S.2.1 dL_law_368 rfl ?_
          refine lv_goto (tgt := 754) S.1 S.2.1 dL_law_369 (by decide) ?_
          refine z_iinc S (i := 3) (k := 3) (v := x3 + 6) hl rfl (by decide) rfl (fun v => (3, .int v) :: [(0, .ref b), (1, .ref a_x), (2, .ref a_m)]) (fun _ => rfl) h dL_law_754 (fun y88 ls hl h => ?_)
          replace hl : lv_has ls 4 [(3, .int y88), (0, .ref b), (1, .ref a_x), (2, .ref a_m)] := hl
          refine lv_goto (tgt := 18) S.1 S.2.1 dL_law_757 (by decide) ?_
          exact ih_18 X76 M84 y88 h _ _ ls hw (lv_sub hl [1, 2, 3, 0] rfl)
        refine z_ife h (fun e33_6 h => ?_) (fun ne33_6 h => ?_)
        · refine lv_tableIn (tgt := 372) S.1 S.2.1 dL_law_33 (by rw [e33_6]; decide) (by rw [e33_6]; decide) (by rw [e33_6]; rfl) (by decide) ?_
          refine lv_aload_n S.1 S.2.1 dL_law_372 rfl (lv_at hl 1 rfl) ?_
          obtain ⟨y89, X90, hc, h⟩ := z_b2_e h
          obtain ⟨t91, t92, t93, t94, t95, t96, t97, t98, t99, t100, t101, t102, t103, hc1, hX1⟩ := X_c_find_e hc
          refine z_callVi (As := []) (rest := []) S (c_X7_find l D cI cJ cZ a_x a_x_board a_x_board_rows a_x_ruled a_x_ruled_firsts a_x_ruled_firsts_cells a_x_ruled_lasts a_x_ruled_lasts_cells a_x_signs a_x_signs_left a_x_signs_left_rows a_x_signs_queue a_x_signs_queue_cells a_x_signs_facts a_x_signs_facts_cells a_x_signs_places a_x_signs_places_cells a_x_signs_told a_x_signs_told_cells a_x_kinds a_x_reading a_x_ways (X_leastRun X1) (X_found X1) (X_readingIsOld X1) (X_board_rows X1) (X_ruled_size X1) (X_ruled_staffStart X1) (X_ruled_firsts_cells X1) (X_ruled_lasts_cells X1) (X_signs_size X1) (X_signs_sizeBefore X1) (X_signs_left_rows X1) (X_signs_queue_cells X1) (X_signs_facts_cells X1) (X_signs_places_cells X1) (X_signs_told_cells X1) K _ hc1) (cwV 0 S.2.2.2.2 (gl_V gw_371 gw_372 gw_373 gw_50 gw_374) rfl rfl rfl hd_X7_find ⟨Nat.le_of_ble_eq_true rfl, Nat.le_of_ble_eq_true rfl⟩) hK hA hw (0 :: 1 :: 2 :: 3 :: 4 :: 5 :: 6 :: 7 :: 8 :: 9 :: 10 :: 11 :: 12 :: 13 :: 14 :: 15 :: 16 :: 17 :: 18 :: []) (by decide) rfl rfl (some 0 :: some 1 :: some 2 :: some 3 :: some 4 :: some 5 :: some 6 :: some 7 :: some 8 :: some 9 :: some 10 :: some 11 :: some 12 :: some 13 :: some 14 :: some 15 :: some 16 :: some 17 :: some 18 :: none :: none :: none :: none :: none :: none :: none :: none :: none :: none :: none :: none :: none :: none :: none :: none :: none :: none :: none :: none :: none :: none :: none :: none :: none :: none :: none :: none :: none :: none :: none :: none :: none :: none :: none :: none :: none :: none :: none :: none :: none :: none :: none :: none :: none :: none :: none :: none :: none :: none :: none :: none :: none :: none :: none :: []) rfl (by decide) 0 rfl rfl hl.1 rfl rfl (lv_room (Nat.le_of_ble_eq_true rfl)) ⟨Nat.le_of_ble_eq_true rfl, Nat.le_of_ble_eq_true rfl⟩ dL_law_373 (fun H locs hw => ?_)
          replace hw : zW D A s H locs (wd_L cI cJ cZ a_x a_x_board a_x_board_rows a_x_ruled a_x_ruled_firsts a_x_ruled_firsts_cells a_x_ruled_lasts a_x_ruled_lasts_cells a_x_signs a_x_signs_left a_x_signs_left_rows a_x_signs_queue a_x_signs_queue_cells a_x_signs_facts a_x_signs_facts_cells a_x_signs_places a_x_signs_places_cells a_x_signs_told a_x_signs_told_cells a_x_kinds a_x_kinds_lows a_x_kinds_lows_cells a_x_kinds_highs a_x_kinds_highs_cells a_x_kinds_heights a_x_kinds_heights_cells a_x_kinds_prices a_x_kinds_prices_cells a_x_reading a_x_reading_costs a_x_reading_costs_cells a_x_reading_nexts a_x_reading_nexts_cells a_x_reading_rests a_x_reading_rests_cells a_x_reading_aheads a_x_reading_aheads_cells a_x_reading_coming a_x_reading_coming_cells a_x_reading_meanings a_x_reading_meanings_cells a_x_reading_doubts a_x_reading_doubts_cells a_x_reading_measureOf a_x_reading_measureOf_cells a_x_reading_times a_x_reading_times_cells a_x_ways a_x_ways_signs a_x_ways_signs_cells a_x_ways_gone a_x_ways_gone_cells a_m a_m_board a_m_area a_m_x0 a_m_y0 a_m_x1 a_m_y1 a_m_head a_m_said a_m_low a_m_high a_m_least a_m_price a_m_way a_m_lineFirst a_m_lineLast a_m_left a_m_pile a_m_rest a_m_read a_m_measure a_m_wentBack X90 M2) := by rw [hX1]; exact hw
          clear hX1 hc hc1
          refine lv_pop S.1 S.2.1 dL_law_376 rfl ?_
          refine lv_aload_n S.1 S.2.1 dL_law_377 rfl (lv_at hl 2 rfl) ?_
          obtain ⟨y104, M105, hc, h⟩ := z_b2_e h
          obtain ⟨t106, t107, t108, t109, t110, t111, t112, t113, t114, t115, t116, t117, t118, t119, hc1, hX1⟩ := M_c_find_e hc
          refine z_callVi (As := []) (rest := []) S (c_X8_find l D cI cJ cZ a_m a_m_board a_m_area a_m_x0 a_m_y0 a_m_x1 a_m_y1 a_m_head a_m_said a_m_low a_m_high a_m_least a_m_price a_m_way a_m_lineFirst a_m_lineLast a_m_left a_m_pile a_m_rest a_m_read a_m_measure a_m_wentBack (M_run M2) (M_signs M2) (M_lastSigns M2) (M_dirt M2) (M_time M2) (M_lineMany M2) (M_notSign M2) (M_notKind M2) (M_measureMany M2) (M_board M2) (M_area M2) (M_x0 M2) (M_y0 M2) (M_x1 M2) (M_y1 M2) (M_head M2) (M_said M2) (M_lineFirst M2) (M_lineLast M2) (M_left M2) (M_pile M2) K _ hc1) (cwV 0 S.2.2.2.2 (gl_V gw_849 gw_850 gw_851 gw_58 gw_852) rfl rfl rfl hd_X8_find ⟨Nat.le_of_ble_eq_true rfl, Nat.le_of_ble_eq_true rfl⟩) hK hA hw (52 :: 53 :: 54 :: 55 :: 56 :: 57 :: 58 :: 59 :: 60 :: 66 :: 67 :: 68 :: 69 :: []) (by decide) rfl rfl (none :: none :: none :: none :: none :: none :: none :: none :: none :: none :: none :: none :: none :: none :: none :: none :: none :: none :: none :: none :: none :: none :: none :: none :: none :: none :: none :: none :: none :: none :: none :: none :: none :: none :: none :: none :: none :: none :: none :: none :: none :: none :: none :: none :: none :: none :: none :: none :: none :: none :: none :: none :: some 0 :: some 1 :: some 2 :: some 3 :: some 4 :: some 5 :: some 6 :: some 7 :: some 8 :: none :: none :: none :: none :: none :: some 9 :: some 10 :: some 11 :: some 12 :: none :: none :: none :: none :: []) rfl (by decide) 52 rfl rfl hl.1 rfl rfl (lv_room (Nat.le_of_ble_eq_true rfl)) ⟨Nat.le_of_ble_eq_true rfl, Nat.le_of_ble_eq_true rfl⟩ dL_law_378 (fun H locs hw => ?_)
          replace hw : zW D A s H locs (wd_L cI cJ cZ a_x a_x_board a_x_board_rows a_x_ruled a_x_ruled_firsts a_x_ruled_firsts_cells a_x_ruled_lasts a_x_ruled_lasts_cells a_x_signs a_x_signs_left a_x_signs_left_rows a_x_signs_queue a_x_signs_queue_cells a_x_signs_facts a_x_signs_facts_cells a_x_signs_places a_x_signs_places_cells a_x_signs_told a_x_signs_told_cells a_x_kinds a_x_kinds_lows a_x_kinds_lows_cells a_x_kinds_highs a_x_kinds_highs_cells a_x_kinds_heights a_x_kinds_heights_cells a_x_kinds_prices a_x_kinds_prices_cells a_x_reading a_x_reading_costs a_x_reading_costs_cells a_x_reading_nexts a_x_reading_nexts_cells a_x_reading_rests a_x_reading_rests_cells a_x_reading_aheads a_x_reading_aheads_cells a_x_reading_coming a_x_reading_coming_cells a_x_reading_meanings a_x_reading_meanings_cells a_x_reading_doubts a_x_reading_doubts_cells a_x_reading_measureOf a_x_reading_measureOf_cells a_x_reading_times a_x_reading_times_cells a_x_ways a_x_ways_signs a_x_ways_signs_cells a_x_ways_gone a_x_ways_gone_cells a_m a_m_board a_m_area a_m_x0 a_m_y0 a_m_x1 a_m_y1 a_m_head a_m_said a_m_low a_m_high a_m_least a_m_price a_m_way a_m_lineFirst a_m_lineLast a_m_left a_m_pile a_m_rest a_m_read a_m_measure a_m_wentBack X90 M105) := by rw [hX1]; exact hw
          clear hX1 hc hc1
          refine lv_pop S.1 S.2.1 dL_law_381 rfl ?_
          refine lv_goto (tgt := 754) S.1 S.2.1 dL_law_382 (by decide) ?_
          refine z_iinc S (i := 3) (k := 3) (v := x3 + 6) hl rfl (by decide) rfl (fun v => (3, .int v) :: [(0, .ref b), (1, .ref a_x), (2, .ref a_m)]) (fun _ => rfl) h dL_law_754 (fun y120 ls hl h => ?_)
          replace hl : lv_has ls 4 [(3, .int y120), (0, .ref b), (1, .ref a_x), (2, .ref a_m)] := hl
          refine lv_goto (tgt := 18) S.1 S.2.1 dL_law_757 (by decide) ?_
          exact ih_18 X90 M105 y120 h _ _ ls hw (lv_sub hl [1, 2, 3, 0] rfl)
        refine z_ife h (fun e33_7 h => ?_) (fun ne33_7 h => ?_)
        · refine lv_tableIn (tgt := 385) S.1 S.2.1 dL_law_33 (by rw [e33_7]; decide) (by rw [e33_7]; decide) (by rw [e33_7]; rfl) (by decide) ?_
          refine lv_aload_n S.1 S.2.1 dL_law_385 rfl (lv_at hl 1 rfl) ?_
          refine lv_aload_n S.1 S.2.1 dL_law_386 rfl (lv_at hl 0 rfl) ?_
          refine lv_iload_n S.1 S.2.1 dL_law_387 rfl (lv_at hl 3 rfl) ?_
          refine lv_iconst (v := 1) S.1 S.2.1 dL_law_388 (by decide) ?_
          refine lv_iadd S.1 S.2.1 dL_law_389 ?_
          obtain ⟨hin, h⟩ := z_ald_e h
          refine va_sld S.1 S.2.1 hX hbl hbA hw.2.2 hin dL_law_390 ?_
          obtain ⟨y121, ey⟩ : ∃ y, y = xs ((x3 + 1)).toNatClampNeg := ⟨_, rfl⟩
          rw [← ey] at h ⊢
          clear ey
          refine lv_aload_n S.1 S.2.1 dL_law_391 rfl (lv_at hl 0 rfl) ?_
          refine lv_iload_n S.1 S.2.1 dL_law_392 rfl (lv_at hl 3 rfl) ?_
          refine lv_iconst (v := 2) S.1 S.2.1 dL_law_393 (by decide) ?_
          refine lv_iadd S.1 S.2.1 dL_law_394 ?_
          obtain ⟨hin, h⟩ := z_ald_e h
          refine va_sld S.1 S.2.1 hX hbl hbA hw.2.2 hin dL_law_395 ?_
          obtain ⟨y122, ey⟩ : ∃ y, y = xs ((x3 + 2)).toNatClampNeg := ⟨_, rfl⟩
          rw [← ey] at h ⊢
          clear ey
          obtain ⟨y123, X124, hc, h⟩ := z_b2_e h
          obtain ⟨hc1, hX1⟩ := X_c_sign_e hc
          refine z_callVi (As := [.int y121, .int y122]) (rest := []) S (c_X7_sign l D cI cJ cZ a_x a_x_board a_x_ruled a_x_signs a_x_signs_left a_x_signs_queue a_x_signs_facts a_x_signs_facts_cells a_x_signs_places a_x_signs_places_cells a_x_signs_told a_x_signs_told_cells a_x_kinds a_x_reading a_x_ways (X_leastRun X1) (X_found X1) (X_readingIsOld X1) (X_signs_size X1) (X_signs_sizeBefore X1) (X_signs_facts_cells X1) (X_signs_places_cells X1) (X_signs_told_cells X1) y121 y122 _ hc1) (cwV 2 S.2.2.2.2 (gl_V gw_457 gw_458 gw_459 gw_50 gw_460) rfl rfl rfl hd_X7_sign ⟨Nat.le_of_ble_eq_true rfl, Nat.le_of_ble_eq_true rfl⟩) hK hA hw [0, 8, 13, 14, 15, 16, 17, 18] (by decide) rfl rfl (some 0 :: none :: none :: none :: none :: none :: none :: none :: some 1 :: none :: none :: none :: none :: some 2 :: some 3 :: some 4 :: some 5 :: some 6 :: some 7 :: none :: none :: none :: none :: none :: none :: none :: none :: none :: none :: none :: none :: none :: none :: none :: none :: none :: none :: none :: none :: none :: none :: none :: none :: none :: none :: none :: none :: none :: none :: none :: none :: none :: none :: none :: none :: none :: none :: none :: none :: none :: none :: none :: none :: none :: none :: none :: none :: none :: none :: none :: none :: none :: none :: none :: []) rfl (by decide) 0 rfl rfl hl.1 rfl rfl (lv_room (Nat.le_of_ble_eq_true rfl)) ⟨Nat.le_of_ble_eq_true rfl, Nat.le_of_ble_eq_true rfl⟩ dL_law_396 (fun H locs hw => ?_)
          replace hw : zW D A s H locs (wd_L cI cJ cZ a_x a_x_board a_x_board_rows a_x_ruled a_x_ruled_firsts a_x_ruled_firsts_cells a_x_ruled_lasts a_x_ruled_lasts_cells a_x_signs a_x_signs_left a_x_signs_left_rows a_x_signs_queue a_x_signs_queue_cells a_x_signs_facts a_x_signs_facts_cells a_x_signs_places a_x_signs_places_cells a_x_signs_told a_x_signs_told_cells a_x_kinds a_x_kinds_lows a_x_kinds_lows_cells a_x_kinds_highs a_x_kinds_highs_cells a_x_kinds_heights a_x_kinds_heights_cells a_x_kinds_prices a_x_kinds_prices_cells a_x_reading a_x_reading_costs a_x_reading_costs_cells a_x_reading_nexts a_x_reading_nexts_cells a_x_reading_rests a_x_reading_rests_cells a_x_reading_aheads a_x_reading_aheads_cells a_x_reading_coming a_x_reading_coming_cells a_x_reading_meanings a_x_reading_meanings_cells a_x_reading_doubts a_x_reading_doubts_cells a_x_reading_measureOf a_x_reading_measureOf_cells a_x_reading_times a_x_reading_times_cells a_x_ways a_x_ways_signs a_x_ways_signs_cells a_x_ways_gone a_x_ways_gone_cells a_m a_m_board a_m_area a_m_x0 a_m_y0 a_m_x1 a_m_y1 a_m_head a_m_said a_m_low a_m_high a_m_least a_m_price a_m_way a_m_lineFirst a_m_lineLast a_m_left a_m_pile a_m_rest a_m_read a_m_measure a_m_wentBack X124 M2) := by rw [hX1]; exact hw
          clear hX1 hc hc1
          refine lv_pop S.1 S.2.1 dL_law_399 rfl ?_
          refine lv_aload_n S.1 S.2.1 dL_law_400 rfl (lv_at hl 2 rfl) ?_
          refine lv_aload_n S.1 S.2.1 dL_law_401 rfl (lv_at hl 0 rfl) ?_
          refine lv_iload_n S.1 S.2.1 dL_law_402 rfl (lv_at hl 3 rfl) ?_
          refine lv_iconst (v := 1) S.1 S.2.1 dL_law_403 (by decide) ?_
          refine lv_iadd S.1 S.2.1 dL_law_404 ?_
          obtain ⟨hin, h⟩ := z_ald_e h
          refine va_sld S.1 S.2.1 hX hbl hbA hw.2.2 hin dL_law_405 ?_
          obtain ⟨y125, ey⟩ : ∃ y, y = xs ((x3 + 1)).toNatClampNeg := ⟨_, rfl⟩
          rw [← ey] at h ⊢
          clear ey
          refine lv_aload_n S.1 S.2.1 dL_law_406 rfl (lv_at hl 0 rfl) ?_
          refine lv_iload_n S.1 S.2.1 dL_law_407 rfl (lv_at hl 3 rfl) ?_
          refine lv_iconst (v := 2) S.1 S.2.1 dL_law_408 (by decide) ?_
          refine lv_iadd S.1 S.2.1 dL_law_409 ?_
          obtain ⟨hin, h⟩ := z_ald_e h
          refine va_sld S.1 S.2.1 hX hbl hbA hw.2.2 hin dL_law_410 ?_
          obtain ⟨y126, ey⟩ : ∃ y, y = xs ((x3 + 2)).toNatClampNeg := ⟨_, rfl⟩
          rw [← ey] at h ⊢
          clear ey
          obtain ⟨y127, M128, hc, h⟩ := z_b2_e h
          obtain ⟨t129, t130, t131, hc1, hX1⟩ := M_c_sign_e hc
          refine z_callVi (As := [.int y125, .int y126]) (rest := []) S (c_X8_sign l D cI cJ cZ a_m a_m_board a_m_area a_m_x0 a_m_y0 a_m_x1 a_m_y1 a_m_head a_m_said a_m_low a_m_high a_m_least a_m_price a_m_way a_m_lineFirst a_m_lineLast a_m_left a_m_pile a_m_rest a_m_read a_m_measure a_m_wentBack (M_run M2) (M_signs M2) (M_lastSigns M2) (M_dirt M2) (M_time M2) (M_lineMany M2) (M_notSign M2) (M_notKind M2) (M_measureMany M2) (M_board M2) (M_area M2) (M_x0 M2) (M_y0 M2) (M_x1 M2) (M_y1 M2) (M_said M2) (M_lineFirst M2) (M_lineLast M2) K y125 y126 _ hc1) (cwV 2 S.2.2.2.2 (gl_V gw_874 gw_875 gw_876 gw_58 gw_877) rfl rfl rfl hd_X8_sign ⟨Nat.le_of_ble_eq_true rfl, Nat.le_of_ble_eq_true rfl⟩) hK hA hw [52, 53, 54, 55, 56, 57, 58, 60, 66, 67] (by decide) rfl rfl (none :: none :: none :: none :: none :: none :: none :: none :: none :: none :: none :: none :: none :: none :: none :: none :: none :: none :: none :: none :: none :: none :: none :: none :: none :: none :: none :: none :: none :: none :: none :: none :: none :: none :: none :: none :: none :: none :: none :: none :: none :: none :: none :: none :: none :: none :: none :: none :: none :: none :: none :: none :: some 0 :: some 1 :: some 2 :: some 3 :: some 4 :: some 5 :: some 6 :: none :: some 7 :: none :: none :: none :: none :: none :: some 8 :: some 9 :: none :: none :: none :: none :: none :: none :: []) rfl (by decide) 52 rfl rfl hl.1 rfl rfl (lv_room (Nat.le_of_ble_eq_true rfl)) ⟨Nat.le_of_ble_eq_true rfl, Nat.le_of_ble_eq_true rfl⟩ dL_law_411 (fun H locs hw => ?_)
          replace hw : zW D A s H locs (wd_L cI cJ cZ a_x a_x_board a_x_board_rows a_x_ruled a_x_ruled_firsts a_x_ruled_firsts_cells a_x_ruled_lasts a_x_ruled_lasts_cells a_x_signs a_x_signs_left a_x_signs_left_rows a_x_signs_queue a_x_signs_queue_cells a_x_signs_facts a_x_signs_facts_cells a_x_signs_places a_x_signs_places_cells a_x_signs_told a_x_signs_told_cells a_x_kinds a_x_kinds_lows a_x_kinds_lows_cells a_x_kinds_highs a_x_kinds_highs_cells a_x_kinds_heights a_x_kinds_heights_cells a_x_kinds_prices a_x_kinds_prices_cells a_x_reading a_x_reading_costs a_x_reading_costs_cells a_x_reading_nexts a_x_reading_nexts_cells a_x_reading_rests a_x_reading_rests_cells a_x_reading_aheads a_x_reading_aheads_cells a_x_reading_coming a_x_reading_coming_cells a_x_reading_meanings a_x_reading_meanings_cells a_x_reading_doubts a_x_reading_doubts_cells a_x_reading_measureOf a_x_reading_measureOf_cells a_x_reading_times a_x_reading_times_cells a_x_ways a_x_ways_signs a_x_ways_signs_cells a_x_ways_gone a_x_ways_gone_cells a_m a_m_board a_m_area a_m_x0 a_m_y0 a_m_x1 a_m_y1 a_m_head a_m_said a_m_low a_m_high a_m_least a_m_price a_m_way a_m_lineFirst a_m_lineLast a_m_left a_m_pile a_m_rest a_m_read a_m_measure a_m_wentBack X124 M128) := by rw [hX1]; exact hw
          clear hX1 hc hc1
          refine lv_pop S.1 S.2.1 dL_law_414 rfl ?_
          refine lv_goto (tgt := 754) S.1 S.2.1 dL_law_415 (by decide) ?_
          refine z_iinc S (i := 3) (k := 3) (v := x3 + 6) hl rfl (by decide) rfl (fun v => (3, .int v) :: [(0, .ref b), (1, .ref a_x), (2, .ref a_m)]) (fun _ => rfl) h dL_law_754 (fun y132 ls hl h => ?_)
          replace hl : lv_has ls 4 [(3, .int y132), (0, .ref b), (1, .ref a_x), (2, .ref a_m)] := hl
          refine lv_goto (tgt := 18) S.1 S.2.1 dL_law_757 (by decide) ?_
          exact ih_18 X124 M128 y132 h _ _ ls hw (lv_sub hl [1, 2, 3, 0] rfl)
        refine z_ife h (fun e33_8 h => ?_) (fun ne33_8 h => ?_)
        · refine lv_tableIn (tgt := 418) S.1 S.2.1 dL_law_33 (by rw [e33_8]; decide) (by rw [e33_8]; decide) (by rw [e33_8]; rfl) (by decide) ?_
          refine lv_aload_n S.1 S.2.1 dL_law_418 rfl (lv_at hl 1 rfl) ?_
          refine lv_aload_n S.1 S.2.1 dL_law_419 rfl (lv_at hl 0 rfl) ?_
          refine lv_iload_n S.1 S.2.1 dL_law_420 rfl (lv_at hl 3 rfl) ?_
          refine lv_iconst (v := 1) S.1 S.2.1 dL_law_421 (by decide) ?_
          refine lv_iadd S.1 S.2.1 dL_law_422 ?_
          obtain ⟨hin, h⟩ := z_ald_e h
          refine va_sld S.1 S.2.1 hX hbl hbA hw.2.2 hin dL_law_423 ?_
          obtain ⟨y133, ey⟩ : ∃ y, y = xs ((x3 + 1)).toNatClampNeg := ⟨_, rfl⟩
          rw [← ey] at h ⊢
          clear ey
          refine lv_aload_n S.1 S.2.1 dL_law_424 rfl (lv_at hl 0 rfl) ?_
          refine lv_iload_n S.1 S.2.1 dL_law_425 rfl (lv_at hl 3 rfl) ?_
          refine lv_iconst (v := 2) S.1 S.2.1 dL_law_426 (by decide) ?_
          refine lv_iadd S.1 S.2.1 dL_law_427 ?_
          obtain ⟨hin, h⟩ := z_ald_e h
          refine va_sld S.1 S.2.1 hX hbl hbA hw.2.2 hin dL_law_428 ?_
          obtain ⟨y134, ey⟩ : ∃ y, y = xs ((x3 + 2)).toNatClampNeg := ⟨_, rfl⟩
          rw [← ey] at h ⊢
          clear ey
          refine lv_aload_n S.1 S.2.1 dL_law_429 rfl (lv_at hl 0 rfl) ?_
          refine lv_iload_n S.1 S.2.1 dL_law_430 rfl (lv_at hl 3 rfl) ?_
          refine lv_iconst (v := 3) S.1 S.2.1 dL_law_431 (by decide) ?_
          refine lv_iadd S.1 S.2.1 dL_law_432 ?_
          obtain ⟨hin, h⟩ := z_ald_e h
          refine va_sld S.1 S.2.1 hX hbl hbA hw.2.2 hin dL_law_433 ?_
          obtain ⟨y135, ey⟩ : ∃ y, y = xs ((x3 + 3)).toNatClampNeg := ⟨_, rfl⟩
          rw [← ey] at h ⊢
          clear ey
          refine lv_aload_n S.1 S.2.1 dL_law_434 rfl (lv_at hl 0 rfl) ?_
          refine lv_iload_n S.1 S.2.1 dL_law_435 rfl (lv_at hl 3 rfl) ?_
          refine lv_iconst (v := 4) S.1 S.2.1 dL_law_436 (by decide) ?_
          refine lv_iadd S.1 S.2.1 dL_law_437 ?_
          obtain ⟨hin, h⟩ := z_ald_e h
          refine va_sld S.1 S.2.1 hX hbl hbA hw.2.2 hin dL_law_438 ?_
          obtain ⟨y136, ey⟩ : ∃ y, y = xs ((x3 + 4)).toNatClampNeg := ⟨_, rfl⟩
          rw [← ey] at h ⊢
          clear ey
          refine lv_aload_n S.1 S.2.1 dL_law_439 rfl (lv_at hl 0 rfl) ?_
          refine lv_iload_n S.1 S.2.1 dL_law_440 rfl (lv_at hl 3 rfl) ?_
          refine lv_iconst (v := 5) S.1 S.2.1 dL_law_441 (by decide) ?_
          refine lv_iadd S.1 S.2.1 dL_law_442 ?_
          obtain ⟨hin, h⟩ := z_ald_e h
          refine va_sld S.1 S.2.1 hX hbl hbA hw.2.2 hin dL_law_443 ?_
          obtain ⟨y137, ey⟩ : ∃ y, y = xs ((x3 + 5)).toNatClampNeg := ⟨_, rfl⟩
          rw [← ey] at h ⊢
          clear ey
          obtain ⟨y138, X139, hc, h⟩ := z_b2_e h
          obtain ⟨t140, t141, t142, t143, t144, hc1, hX1⟩ := X_c_kind_e hc
          refine z_callVi (As := [.int y133, .int y134, .int y135, .int y136, .int y137]) (rest := []) S (c_X7_kind l D cI cJ cZ a_x a_x_board a_x_ruled a_x_signs a_x_kinds a_x_kinds_lows a_x_kinds_lows_cells a_x_kinds_highs a_x_kinds_highs_cells a_x_kinds_heights a_x_kinds_heights_cells a_x_kinds_prices a_x_kinds_prices_cells a_x_reading a_x_ways (X_leastRun X1) (X_found X1) (X_readingIsOld X1) (X_kinds_dirt X1) (X_kinds_time X1) (X_kinds_lows_cells X1) (X_kinds_highs_cells X1) (X_kinds_heights_cells X1) (X_kinds_prices_cells X1) y133 y134 y135 y136 y137 _ hc1) (cwV 5 S.2.2.2.2 (gl_V gw_470 gw_471 gw_472 gw_50 gw_473) rfl rfl rfl hd_X7_kind ⟨Nat.le_of_ble_eq_true rfl, Nat.le_of_ble_eq_true rfl⟩) hK hA hw [0, 19, 20, 21, 22, 23, 24, 25, 26, 27] (by decide) rfl rfl (some 0 :: none :: none :: none :: none :: none :: none :: none :: none :: none :: none :: none :: none :: none :: none :: none :: none :: none :: none :: some 1 :: some 2 :: some 3 :: some 4 :: some 5 :: some 6 :: some 7 :: some 8 :: some 9 :: none :: none :: none :: none :: none :: none :: none :: none :: none :: none :: none :: none :: none :: none :: none :: none :: none :: none :: none :: none :: none :: none :: none :: none :: none :: none :: none :: none :: none :: none :: none :: none :: none :: none :: none :: none :: none :: none :: none :: none :: none :: none :: none :: none :: none :: none :: []) rfl (by decide) 0 rfl rfl hl.1 rfl rfl (lv_room (Nat.le_of_ble_eq_true rfl)) ⟨Nat.le_of_ble_eq_true rfl, Nat.le_of_ble_eq_true rfl⟩ dL_law_444 (fun H locs hw => ?_)
          replace hw : zW D A s H locs (wd_L cI cJ cZ a_x a_x_board a_x_board_rows a_x_ruled a_x_ruled_firsts a_x_ruled_firsts_cells a_x_ruled_lasts a_x_ruled_lasts_cells a_x_signs a_x_signs_left a_x_signs_left_rows a_x_signs_queue a_x_signs_queue_cells a_x_signs_facts a_x_signs_facts_cells a_x_signs_places a_x_signs_places_cells a_x_signs_told a_x_signs_told_cells a_x_kinds a_x_kinds_lows a_x_kinds_lows_cells a_x_kinds_highs a_x_kinds_highs_cells a_x_kinds_heights a_x_kinds_heights_cells a_x_kinds_prices a_x_kinds_prices_cells a_x_reading a_x_reading_costs a_x_reading_costs_cells a_x_reading_nexts a_x_reading_nexts_cells a_x_reading_rests a_x_reading_rests_cells a_x_reading_aheads a_x_reading_aheads_cells a_x_reading_coming a_x_reading_coming_cells a_x_reading_meanings a_x_reading_meanings_cells a_x_reading_doubts a_x_reading_doubts_cells a_x_reading_measureOf a_x_reading_measureOf_cells a_x_reading_times a_x_reading_times_cells a_x_ways a_x_ways_signs a_x_ways_signs_cells a_x_ways_gone a_x_ways_gone_cells a_m a_m_board a_m_area a_m_x0 a_m_y0 a_m_x1 a_m_y1 a_m_head a_m_said a_m_low a_m_high a_m_least a_m_price a_m_way a_m_lineFirst a_m_lineLast a_m_left a_m_pile a_m_rest a_m_read a_m_measure a_m_wentBack X139 M2) := by rw [hX1]; exact hw
          clear hX1 hc hc1
          refine lv_pop S.1 S.2.1 dL_law_447 rfl ?_
          refine lv_aload_n S.1 S.2.1 dL_law_448 rfl (lv_at hl 2 rfl) ?_
          refine lv_aload_n S.1 S.2.1 dL_law_449 rfl (lv_at hl 0 rfl) ?_
          refine lv_iload_n S.1 S.2.1 dL_law_450 rfl (lv_at hl 3 rfl) ?_
          refine lv_iconst (v := 1) S.1 S.2.1 dL_law_451 (by decide) ?_
          refine lv_iadd S.1 S.2.1 dL_law_452 ?_
          obtain ⟨hin, h⟩ := z_ald_e h
          refine va_sld S.1 S.2.1 hX hbl hbA hw.2.2 hin dL_law_453 ?_
          obtain ⟨y145, ey⟩ : ∃ y, y = xs ((x3 + 1)).toNatClampNeg := ⟨_, rfl⟩
          rw [← ey] at h ⊢
          clear ey
          refine lv_aload_n S.1 S.2.1 dL_law_454 rfl (lv_at hl 0 rfl) ?_
          refine lv_iload_n S.1 S.2.1 dL_law_455 rfl (lv_at hl 3 rfl) ?_
          refine lv_iconst (v := 2) S.1 S.2.1 dL_law_456 (by decide) ?_
          refine lv_iadd S.1 S.2.1 dL_law_457 ?_
          obtain ⟨hin, h⟩ := z_ald_e h
          refine va_sld S.1 S.2.1 hX hbl hbA hw.2.2 hin dL_law_458 ?_
          obtain ⟨y146, ey⟩ : ∃ y, y = xs ((x3 + 2)).toNatClampNeg := ⟨_, rfl⟩
          rw [← ey] at h ⊢
          clear ey
          refine lv_aload_n S.1 S.2.1 dL_law_459 rfl (lv_at hl 0 rfl) ?_
          refine lv_iload_n S.1 S.2.1 dL_law_460 rfl (lv_at hl 3 rfl) ?_
          refine lv_iconst (v := 3) S.1 S.2.1 dL_law_461 (by decide) ?_
          refine lv_iadd S.1 S.2.1 dL_law_462 ?_
          obtain ⟨hin, h⟩ := z_ald_e h
          refine va_sld S.1 S.2.1 hX hbl hbA hw.2.2 hin dL_law_463 ?_
          obtain ⟨y147, ey⟩ : ∃ y, y = xs ((x3 + 3)).toNatClampNeg := ⟨_, rfl⟩
          rw [← ey] at h ⊢
          clear ey
          refine lv_aload_n S.1 S.2.1 dL_law_464 rfl (lv_at hl 0 rfl) ?_
          refine lv_iload_n S.1 S.2.1 dL_law_465 rfl (lv_at hl 3 rfl) ?_
          refine lv_iconst (v := 4) S.1 S.2.1 dL_law_466 (by decide) ?_
          refine lv_iadd S.1 S.2.1 dL_law_467 ?_
          obtain ⟨hin, h⟩ := z_ald_e h
          refine va_sld S.1 S.2.1 hX hbl hbA hw.2.2 hin dL_law_468 ?_
          obtain ⟨y148, ey⟩ : ∃ y, y = xs ((x3 + 4)).toNatClampNeg := ⟨_, rfl⟩
          rw [← ey] at h ⊢
          clear ey
          refine lv_aload_n S.1 S.2.1 dL_law_469 rfl (lv_at hl 0 rfl) ?_
          refine lv_iload_n S.1 S.2.1 dL_law_470 rfl (lv_at hl 3 rfl) ?_
          refine lv_iconst (v := 5) S.1 S.2.1 dL_law_471 (by decide) ?_
          refine lv_iadd S.1 S.2.1 dL_law_472 ?_
          obtain ⟨hin, h⟩ := z_ald_e h
          refine va_sld S.1 S.2.1 hX hbl hbA hw.2.2 hin dL_law_473 ?_
          obtain ⟨y149, ey⟩ : ∃ y, y = xs ((x3 + 5)).toNatClampNeg := ⟨_, rfl⟩
          rw [← ey] at h ⊢
          clear ey
          obtain ⟨y150, M151, hc, h⟩ := z_b2_e h
          obtain ⟨t152, t153, t154, t155, hc1, hX1⟩ := M_c_kind_e hc
          refine z_callVi (As := [.int y145, .int y146, .int y147, .int y148, .int y149]) (rest := []) S (c_X8_kind l D cI cJ cZ a_m a_m_board a_m_area a_m_x0 a_m_y0 a_m_x1 a_m_y1 a_m_head a_m_said a_m_low a_m_high a_m_least a_m_price a_m_way a_m_lineFirst a_m_lineLast a_m_left a_m_pile a_m_rest a_m_read a_m_measure a_m_wentBack (M_run M2) (M_signs M2) (M_lastSigns M2) (M_dirt M2) (M_time M2) (M_lineMany M2) (M_notSign M2) (M_notKind M2) (M_measureMany M2) (M_low M2) (M_high M2) (M_least M2) (M_price M2) y145 y146 y147 y148 y149 _ hc1) (cwV 5 S.2.2.2.2 (gl_V gw_887 gw_888 gw_889 gw_58 gw_890) rfl rfl rfl hd_X8_kind ⟨Nat.le_of_ble_eq_true rfl, Nat.le_of_ble_eq_true rfl⟩) hK hA hw [52, 61, 62, 63, 64] (by decide) rfl rfl (none :: none :: none :: none :: none :: none :: none :: none :: none :: none :: none :: none :: none :: none :: none :: none :: none :: none :: none :: none :: none :: none :: none :: none :: none :: none :: none :: none :: none :: none :: none :: none :: none :: none :: none :: none :: none :: none :: none :: none :: none :: none :: none :: none :: none :: none :: none :: none :: none :: none :: none :: none :: some 0 :: none :: none :: none :: none :: none :: none :: none :: none :: some 1 :: some 2 :: some 3 :: some 4 :: none :: none :: none :: none :: none :: none :: none :: none :: none :: []) rfl (by decide) 52 rfl rfl hl.1 rfl rfl (lv_room (Nat.le_of_ble_eq_true rfl)) ⟨Nat.le_of_ble_eq_true rfl, Nat.le_of_ble_eq_true rfl⟩ dL_law_474 (fun H locs hw => ?_)
          replace hw : zW D A s H locs (wd_L cI cJ cZ a_x a_x_board a_x_board_rows a_x_ruled a_x_ruled_firsts a_x_ruled_firsts_cells a_x_ruled_lasts a_x_ruled_lasts_cells a_x_signs a_x_signs_left a_x_signs_left_rows a_x_signs_queue a_x_signs_queue_cells a_x_signs_facts a_x_signs_facts_cells a_x_signs_places a_x_signs_places_cells a_x_signs_told a_x_signs_told_cells a_x_kinds a_x_kinds_lows a_x_kinds_lows_cells a_x_kinds_highs a_x_kinds_highs_cells a_x_kinds_heights a_x_kinds_heights_cells a_x_kinds_prices a_x_kinds_prices_cells a_x_reading a_x_reading_costs a_x_reading_costs_cells a_x_reading_nexts a_x_reading_nexts_cells a_x_reading_rests a_x_reading_rests_cells a_x_reading_aheads a_x_reading_aheads_cells a_x_reading_coming a_x_reading_coming_cells a_x_reading_meanings a_x_reading_meanings_cells a_x_reading_doubts a_x_reading_doubts_cells a_x_reading_measureOf a_x_reading_measureOf_cells a_x_reading_times a_x_reading_times_cells a_x_ways a_x_ways_signs a_x_ways_signs_cells a_x_ways_gone a_x_ways_gone_cells a_m a_m_board a_m_area a_m_x0 a_m_y0 a_m_x1 a_m_y1 a_m_head a_m_said a_m_low a_m_high a_m_least a_m_price a_m_way a_m_lineFirst a_m_lineLast a_m_left a_m_pile a_m_rest a_m_read a_m_measure a_m_wentBack X139 M151) := by rw [hX1]; exact hw
          clear hX1 hc hc1
          refine lv_pop S.1 S.2.1 dL_law_477 rfl ?_
          refine lv_goto (tgt := 754) S.1 S.2.1 dL_law_478 (by decide) ?_
          refine z_iinc S (i := 3) (k := 3) (v := x3 + 6) hl rfl (by decide) rfl (fun v => (3, .int v) :: [(0, .ref b), (1, .ref a_x), (2, .ref a_m)]) (fun _ => rfl) h dL_law_754 (fun y156 ls hl h => ?_)
          replace hl : lv_has ls 4 [(3, .int y156), (0, .ref b), (1, .ref a_x), (2, .ref a_m)] := hl
          refine lv_goto (tgt := 18) S.1 S.2.1 dL_law_757 (by decide) ?_
          exact ih_18 X139 M151 y156 h _ _ ls hw (lv_sub hl [1, 2, 3, 0] rfl)
        refine z_ife h (fun e33_9 h => ?_) (fun ne33_9 h => ?_)
        · refine lv_tableIn (tgt := 481) S.1 S.2.1 dL_law_33 (by rw [e33_9]; decide) (by rw [e33_9]; decide) (by rw [e33_9]; rfl) (by decide) ?_
          refine lv_aload_n S.1 S.2.1 dL_law_481 rfl (lv_at hl 1 rfl) ?_
          refine lv_aload_n S.1 S.2.1 dL_law_482 rfl (lv_at hl 0 rfl) ?_
          refine lv_iload_n S.1 S.2.1 dL_law_483 rfl (lv_at hl 3 rfl) ?_
          refine lv_iconst (v := 1) S.1 S.2.1 dL_law_484 (by decide) ?_
          refine lv_iadd S.1 S.2.1 dL_law_485 ?_
          obtain ⟨hin, h⟩ := z_ald_e h
          refine va_sld S.1 S.2.1 hX hbl hbA hw.2.2 hin dL_law_486 ?_
          obtain ⟨y157, ey⟩ : ∃ y, y = xs ((x3 + 1)).toNatClampNeg := ⟨_, rfl⟩
          rw [← ey] at h ⊢
          clear ey
          refine lv_aload_n S.1 S.2.1 dL_law_487 rfl (lv_at hl 0 rfl) ?_
          refine lv_iload_n S.1 S.2.1 dL_law_488 rfl (lv_at hl 3 rfl) ?_
          refine lv_iconst (v := 2) S.1 S.2.1 dL_law_489 (by decide) ?_
          refine lv_iadd S.1 S.2.1 dL_law_490 ?_
          obtain ⟨hin, h⟩ := z_ald_e h
          refine va_sld S.1 S.2.1 hX hbl hbA hw.2.2 hin dL_law_491 ?_
          obtain ⟨y158, ey⟩ : ∃ y, y = xs ((x3 + 2)).toNatClampNeg := ⟨_, rfl⟩
          rw [← ey] at h ⊢
          clear ey
          obtain ⟨y159, X160, hc, h⟩ := z_b2_e h
          obtain ⟨t161, t162, t163, hc1, hX1⟩ := X_c_set_e hc
          refine z_callVi (As := [.int y157, .int y158]) (rest := []) S (c_X7_set l D cI cJ cZ a_x a_x_board a_x_ruled a_x_signs a_x_kinds a_x_kinds_lows a_x_kinds_highs a_x_kinds_heights a_x_kinds_prices a_x_reading a_x_ways (X_leastRun X1) (X_found X1) (X_readingIsOld X1) (X_kinds_dirt X1) (X_kinds_time X1) y157 y158 _ hc1) (cwV 2 S.2.2.2.2 (gl_V gw_479 gw_480 gw_481 gw_50 gw_482) rfl rfl rfl hd_X7_set ⟨Nat.le_of_ble_eq_true rfl, Nat.le_of_ble_eq_true rfl⟩) hK hA hw [0, 19] (by decide) rfl rfl (some 0 :: none :: none :: none :: none :: none :: none :: none :: none :: none :: none :: none :: none :: none :: none :: none :: none :: none :: none :: some 1 :: none :: none :: none :: none :: none :: none :: none :: none :: none :: none :: none :: none :: none :: none :: none :: none :: none :: none :: none :: none :: none :: none :: none :: none :: none :: none :: none :: none :: none :: none :: none :: none :: none :: none :: none :: none :: none :: none :: none :: none :: none :: none :: none :: none :: none :: none :: none :: none :: none :: none :: none :: none :: none :: none :: []) rfl (by decide) 0 rfl rfl hl.1 rfl rfl (lv_room (Nat.le_of_ble_eq_true rfl)) ⟨Nat.le_of_ble_eq_true rfl, Nat.le_of_ble_eq_true rfl⟩ dL_law_492 (fun H locs hw => ?_)
          replace hw : zW D A s H locs (wd_L cI cJ cZ a_x a_x_board a_x_board_rows a_x_ruled a_x_ruled_firsts a_x_ruled_firsts_cells a_x_ruled_lasts a_x_ruled_lasts_cells a_x_signs a_x_signs_left a_x_signs_left_rows a_x_signs_queue a_x_signs_queue_cells a_x_signs_facts a_x_signs_facts_cells a_x_signs_places a_x_signs_places_cells a_x_signs_told a_x_signs_told_cells a_x_kinds a_x_kinds_lows a_x_kinds_lows_cells a_x_kinds_highs a_x_kinds_highs_cells a_x_kinds_heights a_x_kinds_heights_cells a_x_kinds_prices a_x_kinds_prices_cells a_x_reading a_x_reading_costs a_x_reading_costs_cells a_x_reading_nexts a_x_reading_nexts_cells a_x_reading_rests a_x_reading_rests_cells a_x_reading_aheads a_x_reading_aheads_cells a_x_reading_coming a_x_reading_coming_cells a_x_reading_meanings a_x_reading_meanings_cells a_x_reading_doubts a_x_reading_doubts_cells a_x_reading_measureOf a_x_reading_measureOf_cells a_x_reading_times a_x_reading_times_cells a_x_ways a_x_ways_signs a_x_ways_signs_cells a_x_ways_gone a_x_ways_gone_cells a_m a_m_board a_m_area a_m_x0 a_m_y0 a_m_x1 a_m_y1 a_m_head a_m_said a_m_low a_m_high a_m_least a_m_price a_m_way a_m_lineFirst a_m_lineLast a_m_left a_m_pile a_m_rest a_m_read a_m_measure a_m_wentBack X160 M2) := by rw [hX1]; exact hw
          clear hX1 hc hc1
          refine lv_aload_n S.1 S.2.1 dL_law_495 rfl (lv_at hl 2 rfl) ?_
          refine lv_aload_n S.1 S.2.1 dL_law_496 rfl (lv_at hl 0 rfl) ?_
          refine lv_iload_n S.1 S.2.1 dL_law_497 rfl (lv_at hl 3 rfl) ?_
          refine lv_iconst (v := 1) S.1 S.2.1 dL_law_498 (by decide) ?_
          refine lv_iadd S.1 S.2.1 dL_law_499 ?_
          obtain ⟨hin, h⟩ := z_ald_e h
          refine va_sld S.1 S.2.1 hX hbl hbA hw.2.2 hin dL_law_500 ?_
          obtain ⟨y164, ey⟩ : ∃ y, y = xs ((x3 + 1)).toNatClampNeg := ⟨_, rfl⟩
          rw [← ey] at h ⊢
          clear ey
          refine lv_aload_n S.1 S.2.1 dL_law_501 rfl (lv_at hl 0 rfl) ?_
          refine lv_iload_n S.1 S.2.1 dL_law_502 rfl (lv_at hl 3 rfl) ?_
          refine lv_iconst (v := 2) S.1 S.2.1 dL_law_503 (by decide) ?_
          refine lv_iadd S.1 S.2.1 dL_law_504 ?_
          obtain ⟨hin, h⟩ := z_ald_e h
          refine va_sld S.1 S.2.1 hX hbl hbA hw.2.2 hin dL_law_505 ?_
          obtain ⟨y165, ey⟩ : ∃ y, y = xs ((x3 + 2)).toNatClampNeg := ⟨_, rfl⟩
          rw [← ey] at h ⊢
          clear ey
          obtain ⟨y166, M167, hc, h⟩ := z_b2_e h
          obtain ⟨t168, t169, hc1, hX1⟩ := M_c_set_e hc
          refine z_callVi (As := [.int y164, .int y165]) (rest := [.int y159]) S (c_X8_set l D cI cJ cZ a_m a_m_board a_m_area a_m_x0 a_m_y0 a_m_x1 a_m_y1 a_m_head a_m_said a_m_low a_m_high a_m_least a_m_price a_m_way a_m_lineFirst a_m_lineLast a_m_left a_m_pile a_m_rest a_m_read a_m_measure a_m_wentBack (M_run M2) (M_signs M2) (M_lastSigns M2) (M_dirt M2) (M_time M2) (M_lineMany M2) (M_notSign M2) (M_notKind M2) (M_measureMany M2) y164 y165 _ hc1) (cwV 2 S.2.2.2.2 (gl_V gw_891 gw_892 gw_893 gw_58 gw_894) rfl rfl rfl hd_X8_set ⟨Nat.le_of_ble_eq_true rfl, Nat.le_of_ble_eq_true rfl⟩) hK hA hw [52] (by decide) rfl rfl (none :: none :: none :: none :: none :: none :: none :: none :: none :: none :: none :: none :: none :: none :: none :: none :: none :: none :: none :: none :: none :: none :: none :: none :: none :: none :: none :: none :: none :: none :: none :: none :: none :: none :: none :: none :: none :: none :: none :: none :: none :: none :: none :: none :: none :: none :: none :: none :: none :: none :: none :: none :: some 0 :: none :: none :: none :: none :: none :: none :: none :: none :: none :: none :: none :: none :: none :: none :: none :: none :: none :: none :: none :: none :: none :: []) rfl (by decide) 52 rfl rfl hl.1 rfl rfl (lv_room (Nat.le_of_ble_eq_true rfl)) ⟨Nat.le_of_ble_eq_true rfl, Nat.le_of_ble_eq_true rfl⟩ dL_law_506 (fun H locs hw => ?_)
          replace hw : zW D A s H locs (wd_L cI cJ cZ a_x a_x_board a_x_board_rows a_x_ruled a_x_ruled_firsts a_x_ruled_firsts_cells a_x_ruled_lasts a_x_ruled_lasts_cells a_x_signs a_x_signs_left a_x_signs_left_rows a_x_signs_queue a_x_signs_queue_cells a_x_signs_facts a_x_signs_facts_cells a_x_signs_places a_x_signs_places_cells a_x_signs_told a_x_signs_told_cells a_x_kinds a_x_kinds_lows a_x_kinds_lows_cells a_x_kinds_highs a_x_kinds_highs_cells a_x_kinds_heights a_x_kinds_heights_cells a_x_kinds_prices a_x_kinds_prices_cells a_x_reading a_x_reading_costs a_x_reading_costs_cells a_x_reading_nexts a_x_reading_nexts_cells a_x_reading_rests a_x_reading_rests_cells a_x_reading_aheads a_x_reading_aheads_cells a_x_reading_coming a_x_reading_coming_cells a_x_reading_meanings a_x_reading_meanings_cells a_x_reading_doubts a_x_reading_doubts_cells a_x_reading_measureOf a_x_reading_measureOf_cells a_x_reading_times a_x_reading_times_cells a_x_ways a_x_ways_signs a_x_ways_signs_cells a_x_ways_gone a_x_ways_gone_cells a_m a_m_board a_m_area a_m_x0 a_m_y0 a_m_x1 a_m_y1 a_m_head a_m_said a_m_low a_m_high a_m_least a_m_price a_m_way a_m_lineFirst a_m_lineLast a_m_left a_m_pile a_m_rest a_m_read a_m_measure a_m_wentBack X160 M167) := by rw [hX1]; exact hw
          clear hX1 hc hc1
          refine z_icmp_eq S (tgt := 754) h dL_law_509 (by decide) (fun h => ?_) (fun h => ?_)
          · refine z_iinc S (i := 3) (k := 3) (v := x3 + 6) hl rfl (by decide) rfl (fun v => (3, .int v) :: [(0, .ref b), (1, .ref a_x), (2, .ref a_m)]) (fun _ => rfl) h dL_law_754 (fun y170 ls hl h => ?_)
            replace hl : lv_has ls 4 [(3, .int y170), (0, .ref b), (1, .ref a_x), (2, .ref a_m)] := hl
            refine lv_goto (tgt := 18) S.1 S.2.1 dL_law_757 (by decide) ?_
            exact ih_18 X160 M167 y170 h _ _ ls hw (lv_sub hl [1, 2, 3, 0] rfl)
          · refine lv_iconst (v := 0) S.1 S.2.1 dL_law_512 (by decide) ?_
            exact absurd h (by decide)
        refine z_ife h (fun e33_10 h => ?_) (fun ne33_10 h => ?_)
        · refine lv_tableIn (tgt := 514) S.1 S.2.1 dL_law_33 (by rw [e33_10]; decide) (by rw [e33_10]; decide) (by rw [e33_10]; rfl) (by decide) ?_
          refine lv_aload_n S.1 S.2.1 dL_law_514 rfl (lv_at hl 1 rfl) ?_
          refine lv_aload_n S.1 S.2.1 dL_law_515 rfl (lv_at hl 0 rfl) ?_
          refine lv_iload_n S.1 S.2.1 dL_law_516 rfl (lv_at hl 3 rfl) ?_
          refine lv_iconst (v := 1) S.1 S.2.1 dL_law_517 (by decide) ?_
          refine lv_iadd S.1 S.2.1 dL_law_518 ?_
          obtain ⟨hin, h⟩ := z_ald_e h
          refine va_sld S.1 S.2.1 hX hbl hbA hw.2.2 hin dL_law_519 ?_
          obtain ⟨y171, ey⟩ : ∃ y, y = xs ((x3 + 1)).toNatClampNeg := ⟨_, rfl⟩
          rw [← ey] at h ⊢
          clear ey
          refine lv_aload_n S.1 S.2.1 dL_law_520 rfl (lv_at hl 0 rfl) ?_
          refine lv_iload_n S.1 S.2.1 dL_law_521 rfl (lv_at hl 3 rfl) ?_
          refine lv_iconst (v := 2) S.1 S.2.1 dL_law_522 (by decide) ?_
          refine lv_iadd S.1 S.2.1 dL_law_523 ?_
          obtain ⟨hin, h⟩ := z_ald_e h
          refine va_sld S.1 S.2.1 hX hbl hbA hw.2.2 hin dL_law_524 ?_
          obtain ⟨y172, ey⟩ : ∃ y, y = xs ((x3 + 2)).toNatClampNeg := ⟨_, rfl⟩
          rw [← ey] at h ⊢
          clear ey
          obtain ⟨y173, X174, hc, h⟩ := z_b2_e h
          obtain ⟨t175, t176, hc1, hX1⟩ := X_c_correct_e hc
          refine z_callVi (As := [.int y171, .int y172]) (rest := []) S (c_X7_correct l D cI cJ cZ a_x a_x_board a_x_ruled a_x_signs a_x_signs_left a_x_signs_queue a_x_signs_facts a_x_signs_places a_x_signs_told a_x_signs_told_cells a_x_kinds a_x_reading a_x_ways (X_leastRun X1) (X_found X1) (X_readingIsOld X1) (X_signs_size X1) (X_signs_sizeBefore X1) (X_signs_told_cells X1) y171 y172 _ hc1) (cwV 2 S.2.2.2.2 (gl_V gw_491 gw_492 gw_493 gw_50 gw_494) rfl rfl rfl hd_X7_correct ⟨Nat.le_of_ble_eq_true rfl, Nat.le_of_ble_eq_true rfl⟩) hK hA hw [0, 8, 17, 18] (by decide) rfl rfl (some 0 :: none :: none :: none :: none :: none :: none :: none :: some 1 :: none :: none :: none :: none :: none :: none :: none :: none :: some 2 :: some 3 :: none :: none :: none :: none :: none :: none :: none :: none :: none :: none :: none :: none :: none :: none :: none :: none :: none :: none :: none :: none :: none :: none :: none :: none :: none :: none :: none :: none :: none :: none :: none :: none :: none :: none :: none :: none :: none :: none :: none :: none :: none :: none :: none :: none :: none :: none :: none :: none :: none :: none :: none :: none :: none :: none :: none :: []) rfl (by decide) 0 rfl rfl hl.1 rfl rfl (lv_room (Nat.le_of_ble_eq_true rfl)) ⟨Nat.le_of_ble_eq_true rfl, Nat.le_of_ble_eq_true rfl⟩ dL_law_525 (fun H locs hw => ?_)
          replace hw : zW D A s H locs (wd_L cI cJ cZ a_x a_x_board a_x_board_rows a_x_ruled a_x_ruled_firsts a_x_ruled_firsts_cells a_x_ruled_lasts a_x_ruled_lasts_cells a_x_signs a_x_signs_left a_x_signs_left_rows a_x_signs_queue a_x_signs_queue_cells a_x_signs_facts a_x_signs_facts_cells a_x_signs_places a_x_signs_places_cells a_x_signs_told a_x_signs_told_cells a_x_kinds a_x_kinds_lows a_x_kinds_lows_cells a_x_kinds_highs a_x_kinds_highs_cells a_x_kinds_heights a_x_kinds_heights_cells a_x_kinds_prices a_x_kinds_prices_cells a_x_reading a_x_reading_costs a_x_reading_costs_cells a_x_reading_nexts a_x_reading_nexts_cells a_x_reading_rests a_x_reading_rests_cells a_x_reading_aheads a_x_reading_aheads_cells a_x_reading_coming a_x_reading_coming_cells a_x_reading_meanings a_x_reading_meanings_cells a_x_reading_doubts a_x_reading_doubts_cells a_x_reading_measureOf a_x_reading_measureOf_cells a_x_reading_times a_x_reading_times_cells a_x_ways a_x_ways_signs a_x_ways_signs_cells a_x_ways_gone a_x_ways_gone_cells a_m a_m_board a_m_area a_m_x0 a_m_y0 a_m_x1 a_m_y1 a_m_head a_m_said a_m_low a_m_high a_m_least a_m_price a_m_way a_m_lineFirst a_m_lineLast a_m_left a_m_pile a_m_rest a_m_read a_m_measure a_m_wentBack X174 M2) := by rw [hX1]; exact hw
          clear hX1 hc hc1
          refine lv_pop S.1 S.2.1 dL_law_528 rfl ?_
          refine lv_aload_n S.1 S.2.1 dL_law_529 rfl (lv_at hl 2 rfl) ?_
          refine lv_aload_n S.1 S.2.1 dL_law_530 rfl (lv_at hl 0 rfl) ?_
          refine lv_iload_n S.1 S.2.1 dL_law_531 rfl (lv_at hl 3 rfl) ?_
          refine lv_iconst (v := 1) S.1 S.2.1 dL_law_532 (by decide) ?_
          refine lv_iadd S.1 S.2.1 dL_law_533 ?_
          obtain ⟨hin, h⟩ := z_ald_e h
          refine va_sld S.1 S.2.1 hX hbl hbA hw.2.2 hin dL_law_534 ?_
          obtain ⟨y177, ey⟩ : ∃ y, y = xs ((x3 + 1)).toNatClampNeg := ⟨_, rfl⟩
          rw [← ey] at h ⊢
          clear ey
          refine lv_aload_n S.1 S.2.1 dL_law_535 rfl (lv_at hl 0 rfl) ?_
          refine lv_iload_n S.1 S.2.1 dL_law_536 rfl (lv_at hl 3 rfl) ?_
          refine lv_iconst (v := 2) S.1 S.2.1 dL_law_537 (by decide) ?_
          refine lv_iadd S.1 S.2.1 dL_law_538 ?_
          obtain ⟨hin, h⟩ := z_ald_e h
          refine va_sld S.1 S.2.1 hX hbl hbA hw.2.2 hin dL_law_539 ?_
          obtain ⟨y178, ey⟩ : ∃ y, y = xs ((x3 + 2)).toNatClampNeg := ⟨_, rfl⟩
          rw [← ey] at h ⊢
          clear ey
          obtain ⟨y179, M180, hc, h⟩ := z_b2_e h
          obtain ⟨t181, hc1, hX1⟩ := M_c_correct_e hc
          refine z_callVi (As := [.int y177, .int y178]) (rest := []) S (c_X8_correct l D cI cJ cZ a_m a_m_board a_m_area a_m_x0 a_m_y0 a_m_x1 a_m_y1 a_m_head a_m_said a_m_low a_m_high a_m_least a_m_price a_m_way a_m_lineFirst a_m_lineLast a_m_left a_m_pile a_m_rest a_m_read a_m_measure a_m_wentBack (M_run M2) (M_signs M2) (M_lastSigns M2) (M_dirt M2) (M_time M2) (M_lineMany M2) (M_notSign M2) (M_notKind M2) (M_measureMany M2) (M_said M2) y177 y178 _ hc1) (cwV 2 S.2.2.2.2 (gl_V gw_895 gw_896 gw_897 gw_58 gw_898) rfl rfl rfl hd_X8_correct ⟨Nat.le_of_ble_eq_true rfl, Nat.le_of_ble_eq_true rfl⟩) hK hA hw [52, 60] (by decide) rfl rfl (none :: none :: none :: none :: none :: none :: none :: none :: none :: none :: none :: none :: none :: none :: none :: none :: none :: none :: none :: none :: none :: none :: none :: none :: none :: none :: none :: none :: none :: none :: none :: none :: none :: none :: none :: none :: none :: none :: none :: none :: none :: none :: none :: none :: none :: none :: none :: none :: none :: none :: none :: none :: some 0 :: none :: none :: none :: none :: none :: none :: none :: some 1 :: none :: none :: none :: none :: none :: none :: none :: none :: none :: none :: none :: none :: none :: []) rfl (by decide) 52 rfl rfl hl.1 rfl rfl (lv_room (Nat.le_of_ble_eq_true rfl)) ⟨Nat.le_of_ble_eq_true rfl, Nat.le_of_ble_eq_true rfl⟩ dL_law_540 (fun H locs hw => ?_)
          replace hw : zW D A s H locs (wd_L cI cJ cZ a_x a_x_board a_x_board_rows a_x_ruled a_x_ruled_firsts a_x_ruled_firsts_cells a_x_ruled_lasts a_x_ruled_lasts_cells a_x_signs a_x_signs_left a_x_signs_left_rows a_x_signs_queue a_x_signs_queue_cells a_x_signs_facts a_x_signs_facts_cells a_x_signs_places a_x_signs_places_cells a_x_signs_told a_x_signs_told_cells a_x_kinds a_x_kinds_lows a_x_kinds_lows_cells a_x_kinds_highs a_x_kinds_highs_cells a_x_kinds_heights a_x_kinds_heights_cells a_x_kinds_prices a_x_kinds_prices_cells a_x_reading a_x_reading_costs a_x_reading_costs_cells a_x_reading_nexts a_x_reading_nexts_cells a_x_reading_rests a_x_reading_rests_cells a_x_reading_aheads a_x_reading_aheads_cells a_x_reading_coming a_x_reading_coming_cells a_x_reading_meanings a_x_reading_meanings_cells a_x_reading_doubts a_x_reading_doubts_cells a_x_reading_measureOf a_x_reading_measureOf_cells a_x_reading_times a_x_reading_times_cells a_x_ways a_x_ways_signs a_x_ways_signs_cells a_x_ways_gone a_x_ways_gone_cells a_m a_m_board a_m_area a_m_x0 a_m_y0 a_m_x1 a_m_y1 a_m_head a_m_said a_m_low a_m_high a_m_least a_m_price a_m_way a_m_lineFirst a_m_lineLast a_m_left a_m_pile a_m_rest a_m_read a_m_measure a_m_wentBack X174 M180) := by rw [hX1]; exact hw
          clear hX1 hc hc1
          refine lv_pop S.1 S.2.1 dL_law_543 rfl ?_
          refine lv_goto (tgt := 754) S.1 S.2.1 dL_law_544 (by decide) ?_
          refine z_iinc S (i := 3) (k := 3) (v := x3 + 6) hl rfl (by decide) rfl (fun v => (3, .int v) :: [(0, .ref b), (1, .ref a_x), (2, .ref a_m)]) (fun _ => rfl) h dL_law_754 (fun y182 ls hl h => ?_)
          replace hl : lv_has ls 4 [(3, .int y182), (0, .ref b), (1, .ref a_x), (2, .ref a_m)] := hl
          refine lv_goto (tgt := 18) S.1 S.2.1 dL_law_757 (by decide) ?_
          exact ih_18 X174 M180 y182 h _ _ ls hw (lv_sub hl [1, 2, 3, 0] rfl)
        refine z_ife h (fun e33_11 h => ?_) (fun ne33_11 h => ?_)
        · refine lv_tableIn (tgt := 547) S.1 S.2.1 dL_law_33 (by rw [e33_11]; decide) (by rw [e33_11]; decide) (by rw [e33_11]; rfl) (by decide) ?_
          refine lv_aload_n S.1 S.2.1 dL_law_547 rfl (lv_at hl 1 rfl) ?_
          obtain ⟨y183, X184, hc, h⟩ := z_b2_e h
          obtain ⟨t185, t186, t187, t188, t189, t190, t191, t192, t193, t194, t195, t196, hc1, hX1⟩ := X_c_best_e hc
          refine z_callVi (As := []) (rest := []) S (c_X7_best l D cI cJ cZ a_x a_x_board a_x_ruled a_x_signs a_x_signs_left a_x_signs_queue a_x_signs_facts a_x_signs_facts_cells a_x_signs_places a_x_signs_places_cells a_x_signs_told a_x_signs_told_cells a_x_kinds a_x_kinds_lows a_x_kinds_lows_cells a_x_kinds_highs a_x_kinds_highs_cells a_x_kinds_heights a_x_kinds_heights_cells a_x_kinds_prices a_x_kinds_prices_cells a_x_reading a_x_reading_costs a_x_reading_costs_cells a_x_reading_nexts a_x_reading_nexts_cells a_x_reading_rests a_x_reading_rests_cells a_x_reading_aheads a_x_reading_coming a_x_reading_meanings a_x_reading_meanings_cells a_x_reading_doubts a_x_reading_measureOf a_x_reading_measureOf_cells a_x_reading_times a_x_reading_times_cells a_x_ways (X_leastRun X1) (X_found X1) (X_readingIsOld X1) (X_signs_size X1) (X_signs_sizeBefore X1) (X_signs_facts_cells X1) (X_signs_places_cells X1) (X_signs_told_cells X1) (X_kinds_dirt X1) (X_kinds_time X1) (X_kinds_lows_cells X1) (X_kinds_highs_cells X1) (X_kinds_heights_cells X1) (X_kinds_prices_cells X1) (X_reading_size X1) (X_reading_states X1) (X_reading_total X1) (X_reading_measures X1) (X_reading_doubtsAreOld X1) (X_reading_costs_cells X1) (X_reading_nexts_cells X1) (X_reading_rests_cells X1) (X_reading_meanings_cells X1) (X_reading_measureOf_cells X1) (X_reading_times_cells X1) K _ hc1) (cwV 0 S.2.2.2.2 (gl_V gw_503 gw_504 gw_505 gw_50 gw_506) rfl rfl rfl hd_X7_best ⟨Nat.le_of_ble_eq_true rfl, Nat.le_of_ble_eq_true rfl⟩) hK hA hw (0 :: 8 :: 13 :: 14 :: 15 :: 16 :: 17 :: 18 :: 19 :: 20 :: 21 :: 22 :: 23 :: 24 :: 25 :: 26 :: 27 :: 28 :: 29 :: 30 :: 31 :: 32 :: 33 :: 34 :: 39 :: 40 :: 43 :: 44 :: 45 :: 46 :: []) (by decide) rfl rfl (some 0 :: none :: none :: none :: none :: none :: none :: none :: some 1 :: none :: none :: none :: none :: some 2 :: some 3 :: some 4 :: some 5 :: some 6 :: some 7 :: some 8 :: some 9 :: some 10 :: some 11 :: some 12 :: some 13 :: some 14 :: some 15 :: some 16 :: some 17 :: some 18 :: some 19 :: some 20 :: some 21 :: some 22 :: some 23 :: none :: none :: none :: none :: some 24 :: some 25 :: none :: none :: some 26 :: some 27 :: some 28 :: some 29 :: none :: none :: none :: none :: none :: none :: none :: none :: none :: none :: none :: none :: none :: none :: none :: none :: none :: none :: none :: none :: none :: none :: none :: none :: none :: none :: none :: []) rfl (by decide) 0 rfl rfl hl.1 rfl rfl (lv_room (Nat.le_of_ble_eq_true rfl)) ⟨Nat.le_of_ble_eq_true rfl, Nat.le_of_ble_eq_true rfl⟩ dL_law_548 (fun H locs hw => ?_)
          replace hw : zW D A s H locs (wd_L cI cJ cZ a_x a_x_board a_x_board_rows a_x_ruled a_x_ruled_firsts a_x_ruled_firsts_cells a_x_ruled_lasts a_x_ruled_lasts_cells a_x_signs a_x_signs_left a_x_signs_left_rows a_x_signs_queue a_x_signs_queue_cells a_x_signs_facts a_x_signs_facts_cells a_x_signs_places a_x_signs_places_cells a_x_signs_told a_x_signs_told_cells a_x_kinds a_x_kinds_lows a_x_kinds_lows_cells a_x_kinds_highs a_x_kinds_highs_cells a_x_kinds_heights a_x_kinds_heights_cells a_x_kinds_prices a_x_kinds_prices_cells a_x_reading a_x_reading_costs a_x_reading_costs_cells a_x_reading_nexts a_x_reading_nexts_cells a_x_reading_rests a_x_reading_rests_cells a_x_reading_aheads a_x_reading_aheads_cells a_x_reading_coming a_x_reading_coming_cells a_x_reading_meanings a_x_reading_meanings_cells a_x_reading_doubts a_x_reading_doubts_cells a_x_reading_measureOf a_x_reading_measureOf_cells a_x_reading_times a_x_reading_times_cells a_x_ways a_x_ways_signs a_x_ways_signs_cells a_x_ways_gone a_x_ways_gone_cells a_m a_m_board a_m_area a_m_x0 a_m_y0 a_m_x1 a_m_y1 a_m_head a_m_said a_m_low a_m_high a_m_least a_m_price a_m_way a_m_lineFirst a_m_lineLast a_m_left a_m_pile a_m_rest a_m_read a_m_measure a_m_wentBack X184 M2) := by rw [hX1]; exact hw
          clear hX1 hc hc1
          refine lv_pop S.1 S.2.1 dL_law_551 rfl ?_
          refine lv_aload_n S.1 S.2.1 dL_law_552 rfl (lv_at hl 2 rfl) ?_
          obtain ⟨y197, M198, hc, h⟩ := z_b2_e h
          obtain ⟨t199, t200, hc1, hX1⟩ := M_c_best_e hc
          refine z_callVi (As := []) (rest := []) S (c_X8_best l D cI cJ cZ a_m a_m_board a_m_area a_m_x0 a_m_y0 a_m_x1 a_m_y1 a_m_head a_m_said a_m_low a_m_high a_m_least a_m_price a_m_way a_m_lineFirst a_m_lineLast a_m_left a_m_pile a_m_rest a_m_read a_m_measure a_m_wentBack (M_run M2) (M_signs M2) (M_lastSigns M2) (M_dirt M2) (M_time M2) (M_lineMany M2) (M_notSign M2) (M_notKind M2) (M_measureMany M2) (M_area M2) (M_y0 M2) (M_y1 M2) (M_said M2) (M_low M2) (M_high M2) (M_least M2) (M_price M2) (M_rest M2) (M_read M2) K _ hc1) (cwV 0 S.2.2.2.2 (gl_V gw_899 gw_900 gw_901 gw_58 gw_902) rfl rfl rfl hd_X8_best ⟨Nat.le_of_ble_eq_true rfl, Nat.le_of_ble_eq_true rfl⟩) hK hA hw [52, 54, 56, 58, 60, 61, 62, 63, 64, 70, 71] (by decide) rfl rfl (none :: none :: none :: none :: none :: none :: none :: none :: none :: none :: none :: none :: none :: none :: none :: none :: none :: none :: none :: none :: none :: none :: none :: none :: none :: none :: none :: none :: none :: none :: none :: none :: none :: none :: none :: none :: none :: none :: none :: none :: none :: none :: none :: none :: none :: none :: none :: none :: none :: none :: none :: none :: some 0 :: none :: some 1 :: none :: some 2 :: none :: some 3 :: none :: some 4 :: some 5 :: some 6 :: some 7 :: some 8 :: none :: none :: none :: none :: none :: some 9 :: some 10 :: none :: none :: []) rfl (by decide) 52 rfl rfl hl.1 rfl rfl (lv_room (Nat.le_of_ble_eq_true rfl)) ⟨Nat.le_of_ble_eq_true rfl, Nat.le_of_ble_eq_true rfl⟩ dL_law_553 (fun H locs hw => ?_)
          replace hw : zW D A s H locs (wd_L cI cJ cZ a_x a_x_board a_x_board_rows a_x_ruled a_x_ruled_firsts a_x_ruled_firsts_cells a_x_ruled_lasts a_x_ruled_lasts_cells a_x_signs a_x_signs_left a_x_signs_left_rows a_x_signs_queue a_x_signs_queue_cells a_x_signs_facts a_x_signs_facts_cells a_x_signs_places a_x_signs_places_cells a_x_signs_told a_x_signs_told_cells a_x_kinds a_x_kinds_lows a_x_kinds_lows_cells a_x_kinds_highs a_x_kinds_highs_cells a_x_kinds_heights a_x_kinds_heights_cells a_x_kinds_prices a_x_kinds_prices_cells a_x_reading a_x_reading_costs a_x_reading_costs_cells a_x_reading_nexts a_x_reading_nexts_cells a_x_reading_rests a_x_reading_rests_cells a_x_reading_aheads a_x_reading_aheads_cells a_x_reading_coming a_x_reading_coming_cells a_x_reading_meanings a_x_reading_meanings_cells a_x_reading_doubts a_x_reading_doubts_cells a_x_reading_measureOf a_x_reading_measureOf_cells a_x_reading_times a_x_reading_times_cells a_x_ways a_x_ways_signs a_x_ways_signs_cells a_x_ways_gone a_x_ways_gone_cells a_m a_m_board a_m_area a_m_x0 a_m_y0 a_m_x1 a_m_y1 a_m_head a_m_said a_m_low a_m_high a_m_least a_m_price a_m_way a_m_lineFirst a_m_lineLast a_m_left a_m_pile a_m_rest a_m_read a_m_measure a_m_wentBack X184 M198) := by rw [hX1]; exact hw
          clear hX1 hc hc1
          refine lv_pop S.1 S.2.1 dL_law_556 rfl ?_
          refine lv_goto (tgt := 754) S.1 S.2.1 dL_law_557 (by decide) ?_
          refine z_iinc S (i := 3) (k := 3) (v := x3 + 6) hl rfl (by decide) rfl (fun v => (3, .int v) :: [(0, .ref b), (1, .ref a_x), (2, .ref a_m)]) (fun _ => rfl) h dL_law_754 (fun y201 ls hl h => ?_)
          replace hl : lv_has ls 4 [(3, .int y201), (0, .ref b), (1, .ref a_x), (2, .ref a_m)] := hl
          refine lv_goto (tgt := 18) S.1 S.2.1 dL_law_757 (by decide) ?_
          exact ih_18 X184 M198 y201 h _ _ ls hw (lv_sub hl [1, 2, 3, 0] rfl)
        refine z_ife h (fun e33_12 h => ?_) (fun ne33_12 h => ?_)
        · refine lv_tableIn (tgt := 560) S.1 S.2.1 dL_law_33 (by rw [e33_12]; decide) (by rw [e33_12]; decide) (by rw [e33_12]; rfl) (by decide) ?_
          refine lv_aload_n S.1 S.2.1 dL_law_560 rfl (lv_at hl 1 rfl) ?_
          refine lv_aload_n S.1 S.2.1 dL_law_561 rfl (lv_at hl 0 rfl) ?_
          refine lv_iload_n S.1 S.2.1 dL_law_562 rfl (lv_at hl 3 rfl) ?_
          refine lv_iconst (v := 1) S.1 S.2.1 dL_law_563 (by decide) ?_
          refine lv_iadd S.1 S.2.1 dL_law_564 ?_
          obtain ⟨hin, h⟩ := z_ald_e h
          refine va_sld S.1 S.2.1 hX hbl hbA hw.2.2 hin dL_law_565 ?_
          obtain ⟨y202, ey⟩ : ∃ y, y = xs ((x3 + 1)).toNatClampNeg := ⟨_, rfl⟩
          rw [← ey] at h ⊢
          clear ey
          obtain ⟨y203, X204, hc, h⟩ := z_b2_e h
          obtain ⟨t205, t206, t207, t208, t209, t210, t211, t212, t213, t214, t215, t216, hc1, hX1⟩ := X_c_read_e hc
          refine z_callVi (As := [.int y202]) (rest := []) S (c_X7_read l D cI cJ cZ a_x a_x_board a_x_ruled a_x_signs a_x_signs_left a_x_signs_queue a_x_signs_facts a_x_signs_facts_cells a_x_signs_places a_x_signs_places_cells a_x_signs_told a_x_signs_told_cells a_x_kinds a_x_kinds_lows a_x_kinds_lows_cells a_x_kinds_highs a_x_kinds_highs_cells a_x_kinds_heights a_x_kinds_heights_cells a_x_kinds_prices a_x_kinds_prices_cells a_x_reading a_x_reading_costs a_x_reading_costs_cells a_x_reading_nexts a_x_reading_nexts_cells a_x_reading_rests a_x_reading_rests_cells a_x_reading_aheads a_x_reading_coming a_x_reading_meanings a_x_reading_meanings_cells a_x_reading_doubts a_x_reading_measureOf a_x_reading_measureOf_cells a_x_reading_times a_x_reading_times_cells a_x_ways (X_leastRun X1) (X_found X1) (X_readingIsOld X1) (X_signs_size X1) (X_signs_sizeBefore X1) (X_signs_facts_cells X1) (X_signs_places_cells X1) (X_signs_told_cells X1) (X_kinds_dirt X1) (X_kinds_time X1) (X_kinds_lows_cells X1) (X_kinds_highs_cells X1) (X_kinds_heights_cells X1) (X_kinds_prices_cells X1) (X_reading_size X1) (X_reading_states X1) (X_reading_total X1) (X_reading_measures X1) (X_reading_doubtsAreOld X1) (X_reading_costs_cells X1) (X_reading_nexts_cells X1) (X_reading_rests_cells X1) (X_reading_meanings_cells X1) (X_reading_measureOf_cells X1) (X_reading_times_cells X1) K y202 _ hc1) (cwV 1 S.2.2.2.2 (gl_V gw_595 gw_596 gw_597 gw_50 gw_598) rfl rfl rfl hd_X7_read ⟨Nat.le_of_ble_eq_true rfl, Nat.le_of_ble_eq_true rfl⟩) hK hA hw (0 :: 8 :: 13 :: 14 :: 15 :: 16 :: 17 :: 18 :: 19 :: 20 :: 21 :: 22 :: 23 :: 24 :: 25 :: 26 :: 27 :: 28 :: 29 :: 30 :: 31 :: 32 :: 33 :: 34 :: 39 :: 40 :: 43 :: 44 :: 45 :: 46 :: []) (by decide) rfl rfl (some 0 :: none :: none :: none :: none :: none :: none :: none :: some 1 :: none :: none :: none :: none :: some 2 :: some 3 :: some 4 :: some 5 :: some 6 :: some 7 :: some 8 :: some 9 :: some 10 :: some 11 :: some 12 :: some 13 :: some 14 :: some 15 :: some 16 :: some 17 :: some 18 :: some 19 :: some 20 :: some 21 :: some 22 :: some 23 :: none :: none :: none :: none :: some 24 :: some 25 :: none :: none :: some 26 :: some 27 :: some 28 :: some 29 :: none :: none :: none :: none :: none :: none :: none :: none :: none :: none :: none :: none :: none :: none :: none :: none :: none :: none :: none :: none :: none :: none :: none :: none :: none :: none :: none :: []) rfl (by decide) 0 rfl rfl hl.1 rfl rfl (lv_room (Nat.le_of_ble_eq_true rfl)) ⟨Nat.le_of_ble_eq_true rfl, Nat.le_of_ble_eq_true rfl⟩ dL_law_566 (fun H locs hw => ?_)
          replace hw : zW D A s H locs (wd_L cI cJ cZ a_x a_x_board a_x_board_rows a_x_ruled a_x_ruled_firsts a_x_ruled_firsts_cells a_x_ruled_lasts a_x_ruled_lasts_cells a_x_signs a_x_signs_left a_x_signs_left_rows a_x_signs_queue a_x_signs_queue_cells a_x_signs_facts a_x_signs_facts_cells a_x_signs_places a_x_signs_places_cells a_x_signs_told a_x_signs_told_cells a_x_kinds a_x_kinds_lows a_x_kinds_lows_cells a_x_kinds_highs a_x_kinds_highs_cells a_x_kinds_heights a_x_kinds_heights_cells a_x_kinds_prices a_x_kinds_prices_cells a_x_reading a_x_reading_costs a_x_reading_costs_cells a_x_reading_nexts a_x_reading_nexts_cells a_x_reading_rests a_x_reading_rests_cells a_x_reading_aheads a_x_reading_aheads_cells a_x_reading_coming a_x_reading_coming_cells a_x_reading_meanings a_x_reading_meanings_cells a_x_reading_doubts a_x_reading_doubts_cells a_x_reading_measureOf a_x_reading_measureOf_cells a_x_reading_times a_x_reading_times_cells a_x_ways a_x_ways_signs a_x_ways_signs_cells a_x_ways_gone a_x_ways_gone_cells a_m a_m_board a_m_area a_m_x0 a_m_y0 a_m_x1 a_m_y1 a_m_head a_m_said a_m_low a_m_high a_m_least a_m_price a_m_way a_m_lineFirst a_m_lineLast a_m_left a_m_pile a_m_rest a_m_read a_m_measure a_m_wentBack X204 M2) := by rw [hX1]; exact hw
          clear hX1 hc hc1
          refine lv_pop S.1 S.2.1 dL_law_569 rfl ?_
          refine lv_aload_n S.1 S.2.1 dL_law_570 rfl (lv_at hl 2 rfl) ?_
          refine lv_aload_n S.1 S.2.1 dL_law_571 rfl (lv_at hl 0 rfl) ?_
          refine lv_iload_n S.1 S.2.1 dL_law_572 rfl (lv_at hl 3 rfl) ?_
          refine lv_iconst (v := 1) S.1 S.2.1 dL_law_573 (by decide) ?_
          refine lv_iadd S.1 S.2.1 dL_law_574 ?_
          obtain ⟨hin, h⟩ := z_ald_e h
          refine va_sld S.1 S.2.1 hX hbl hbA hw.2.2 hin dL_law_575 ?_
          obtain ⟨y217, ey⟩ : ∃ y, y = xs ((x3 + 1)).toNatClampNeg := ⟨_, rfl⟩
          rw [← ey] at h ⊢
          clear ey
          obtain ⟨y218, M219, hc, h⟩ := z_b2_e h
          obtain ⟨t220, t221, hc1, hX1⟩ := M_c_read_e hc
          refine z_callVi (As := [.int y217]) (rest := []) S (c_X8_read l D cI cJ cZ a_m a_m_board a_m_area a_m_x0 a_m_y0 a_m_x1 a_m_y1 a_m_head a_m_said a_m_low a_m_high a_m_least a_m_price a_m_way a_m_lineFirst a_m_lineLast a_m_left a_m_pile a_m_rest a_m_read a_m_measure a_m_wentBack (M_run M2) (M_signs M2) (M_lastSigns M2) (M_dirt M2) (M_time M2) (M_lineMany M2) (M_notSign M2) (M_notKind M2) (M_measureMany M2) (M_area M2) (M_y0 M2) (M_y1 M2) (M_said M2) (M_low M2) (M_high M2) (M_least M2) (M_price M2) (M_rest M2) (M_read M2) K y217 _ hc1) (cwV 1 S.2.2.2.2 (gl_V gw_926 gw_927 gw_928 gw_58 gw_929) rfl rfl rfl hd_X8_read ⟨Nat.le_of_ble_eq_true rfl, Nat.le_of_ble_eq_true rfl⟩) hK hA hw [52, 54, 56, 58, 60, 61, 62, 63, 64, 70, 71] (by decide) rfl rfl (none :: none :: none :: none :: none :: none :: none :: none :: none :: none :: none :: none :: none :: none :: none :: none :: none :: none :: none :: none :: none :: none :: none :: none :: none :: none :: none :: none :: none :: none :: none :: none :: none :: none :: none :: none :: none :: none :: none :: none :: none :: none :: none :: none :: none :: none :: none :: none :: none :: none :: none :: none :: some 0 :: none :: some 1 :: none :: some 2 :: none :: some 3 :: none :: some 4 :: some 5 :: some 6 :: some 7 :: some 8 :: none :: none :: none :: none :: none :: some 9 :: some 10 :: none :: none :: []) rfl (by decide) 52 rfl rfl hl.1 rfl rfl (lv_room (Nat.le_of_ble_eq_true rfl)) ⟨Nat.le_of_ble_eq_true rfl, Nat.le_of_ble_eq_true rfl⟩ dL_law_576 (fun H locs hw => ?_)
          replace hw : zW D A s H locs (wd_L cI cJ cZ a_x a_x_board a_x_board_rows a_x_ruled a_x_ruled_firsts a_x_ruled_firsts_cells a_x_ruled_lasts a_x_ruled_lasts_cells a_x_signs a_x_signs_left a_x_signs_left_rows a_x_signs_queue a_x_signs_queue_cells a_x_signs_facts a_x_signs_facts_cells a_x_signs_places a_x_signs_places_cells a_x_signs_told a_x_signs_told_cells a_x_kinds a_x_kinds_lows a_x_kinds_lows_cells a_x_kinds_highs a_x_kinds_highs_cells a_x_kinds_heights a_x_kinds_heights_cells a_x_kinds_prices a_x_kinds_prices_cells a_x_reading a_x_reading_costs a_x_reading_costs_cells a_x_reading_nexts a_x_reading_nexts_cells a_x_reading_rests a_x_reading_rests_cells a_x_reading_aheads a_x_reading_aheads_cells a_x_reading_coming a_x_reading_coming_cells a_x_reading_meanings a_x_reading_meanings_cells a_x_reading_doubts a_x_reading_doubts_cells a_x_reading_measureOf a_x_reading_measureOf_cells a_x_reading_times a_x_reading_times_cells a_x_ways a_x_ways_signs a_x_ways_signs_cells a_x_ways_gone a_x_ways_gone_cells a_m a_m_board a_m_area a_m_x0 a_m_y0 a_m_x1 a_m_y1 a_m_head a_m_said a_m_low a_m_high a_m_least a_m_price a_m_way a_m_lineFirst a_m_lineLast a_m_left a_m_pile a_m_rest a_m_read a_m_measure a_m_wentBack X204 M219) := by rw [hX1]; exact hw
          clear hX1 hc hc1
          refine lv_pop S.1 S.2.1 dL_law_579 rfl ?_
          refine lv_goto (tgt := 754) S.1 S.2.1 dL_law_580 (by decide) ?_
          refine z_iinc S (i := 3) (k := 3) (v := x3 + 6) hl rfl (by decide) rfl (fun v => (3, .int v) :: [(0, .ref b), (1, .ref a_x), (2, .ref a_m)]) (fun _ => rfl) h dL_law_754 (fun y222 ls hl h => ?_)
          replace hl : lv_has ls 4 [(3, .int y222), (0, .ref b), (1, .ref a_x), (2, .ref a_m)] := hl
          refine lv_goto (tgt := 18) S.1 S.2.1 dL_law_757 (by decide) ?_
          exact ih_18 X204 M219 y222 h _ _ ls hw (lv_sub hl [1, 2, 3, 0] rfl)
        refine z_ife h (fun e33_13 h => ?_) (fun ne33_13 h => ?_)
        · refine lv_tableIn (tgt := 583) S.1 S.2.1 dL_law_33 (by rw [e33_13]; decide) (by rw [e33_13]; decide) (by rw [e33_13]; rfl) (by decide) ?_
          refine lv_aload_n S.1 S.2.1 dL_law_583 rfl (lv_at hl 1 rfl) ?_
          refine lv_aload_n S.1 S.2.1 dL_law_584 rfl (lv_at hl 0 rfl) ?_
          refine lv_iload_n S.1 S.2.1 dL_law_585 rfl (lv_at hl 3 rfl) ?_
          refine lv_iconst (v := 1) S.1 S.2.1 dL_law_586 (by decide) ?_
          refine lv_iadd S.1 S.2.1 dL_law_587 ?_
          obtain ⟨hin, h⟩ := z_ald_e h
          refine va_sld S.1 S.2.1 hX hbl hbA hw.2.2 hin dL_law_588 ?_
          obtain ⟨y223, ey⟩ : ∃ y, y = xs ((x3 + 1)).toNatClampNeg := ⟨_, rfl⟩
          rw [← ey] at h ⊢
          clear ey
          obtain ⟨y224, X225, hc, h⟩ := z_b2_e h
          obtain ⟨t226, t227, t228, t229, t230, t231, t232, t233, t234, t235, t236, t237, t238, t239, t240, hc1, hX1⟩ := X_c_doubt_e hc
          refine z_callVi (As := [.int y223]) (rest := []) S (c_X7_doubt l D cI cJ cZ a_x a_x_board a_x_ruled a_x_signs a_x_signs_left a_x_signs_queue a_x_signs_facts a_x_signs_facts_cells a_x_signs_places a_x_signs_places_cells a_x_signs_told a_x_signs_told_cells a_x_kinds a_x_kinds_lows a_x_kinds_lows_cells a_x_kinds_highs a_x_kinds_highs_cells a_x_kinds_heights a_x_kinds_heights_cells a_x_kinds_prices a_x_kinds_prices_cells a_x_reading a_x_reading_costs a_x_reading_costs_cells a_x_reading_nexts a_x_reading_nexts_cells a_x_reading_rests a_x_reading_rests_cells a_x_reading_aheads a_x_reading_aheads_cells a_x_reading_coming a_x_reading_coming_cells a_x_reading_meanings a_x_reading_meanings_cells a_x_reading_doubts a_x_reading_doubts_cells a_x_reading_measureOf a_x_reading_measureOf_cells a_x_reading_times a_x_reading_times_cells a_x_ways (X_leastRun X1) (X_found X1) (X_readingIsOld X1) (X_signs_size X1) (X_signs_sizeBefore X1) (X_signs_facts_cells X1) (X_signs_places_cells X1) (X_signs_told_cells X1) (X_kinds_dirt X1) (X_kinds_time X1) (X_kinds_lows_cells X1) (X_kinds_highs_cells X1) (X_kinds_heights_cells X1) (X_kinds_prices_cells X1) (X_reading_size X1) (X_reading_states X1) (X_reading_total X1) (X_reading_measures X1) (X_reading_doubtsAreOld X1) (X_reading_costs_cells X1) (X_reading_nexts_cells X1) (X_reading_rests_cells X1) (X_reading_aheads_cells X1) (X_reading_coming_cells X1) (X_reading_meanings_cells X1) (X_reading_doubts_cells X1) (X_reading_measureOf_cells X1) (X_reading_times_cells X1) K y223 _ hc1) (cwV 1 S.2.2.2.2 (gl_V gw_603 gw_604 gw_605 gw_50 gw_606) rfl rfl rfl hd_X7_doubt ⟨Nat.le_of_ble_eq_true rfl, Nat.le_of_ble_eq_true rfl⟩) hK hA hw (0 :: 8 :: 13 :: 14 :: 15 :: 16 :: 17 :: 18 :: 19 :: 20 :: 21 :: 22 :: 23 :: 24 :: 25 :: 26 :: 27 :: 28 :: 29 :: 30 :: 31 :: 32 :: 33 :: 34 :: 35 :: 36 :: 37 :: 38 :: 39 :: 40 :: 41 :: 42 :: 43 :: 44 :: 45 :: 46 :: []) (by decide) rfl rfl (some 0 :: none :: none :: none :: none :: none :: none :: none :: some 1 :: none :: none :: none :: none :: some 2 :: some 3 :: some 4 :: some 5 :: some 6 :: some 7 :: some 8 :: some 9 :: some 10 :: some 11 :: some 12 :: some 13 :: some 14 :: some 15 :: some 16 :: some 17 :: some 18 :: some 19 :: some 20 :: some 21 :: some 22 :: some 23 :: some 24 :: some 25 :: some 26 :: some 27 :: some 28 :: some 29 :: some 30 :: some 31 :: some 32 :: some 33 :: some 34 :: some 35 :: none :: none :: none :: none :: none :: none :: none :: none :: none :: none :: none :: none :: none :: none :: none :: none :: none :: none :: none :: none :: none :: none :: none :: none :: none :: none :: none :: []) rfl (by decide) 0 rfl rfl hl.1 rfl rfl (lv_room (Nat.le_of_ble_eq_true rfl)) ⟨Nat.le_of_ble_eq_true rfl, Nat.le_of_ble_eq_true rfl⟩ dL_law_589 (fun H locs hw => ?_)
          replace hw : zW D A s H locs (wd_L cI cJ cZ a_x a_x_board a_x_board_rows a_x_ruled a_x_ruled_firsts a_x_ruled_firsts_cells a_x_ruled_lasts a_x_ruled_lasts_cells a_x_signs a_x_signs_left a_x_signs_left_rows a_x_signs_queue a_x_signs_queue_cells a_x_signs_facts a_x_signs_facts_cells a_x_signs_places a_x_signs_places_cells a_x_signs_told a_x_signs_told_cells a_x_kinds a_x_kinds_lows a_x_kinds_lows_cells a_x_kinds_highs a_x_kinds_highs_cells a_x_kinds_heights a_x_kinds_heights_cells a_x_kinds_prices a_x_kinds_prices_cells a_x_reading a_x_reading_costs a_x_reading_costs_cells a_x_reading_nexts a_x_reading_nexts_cells a_x_reading_rests a_x_reading_rests_cells a_x_reading_aheads a_x_reading_aheads_cells a_x_reading_coming a_x_reading_coming_cells a_x_reading_meanings a_x_reading_meanings_cells a_x_reading_doubts a_x_reading_doubts_cells a_x_reading_measureOf a_x_reading_measureOf_cells a_x_reading_times a_x_reading_times_cells a_x_ways a_x_ways_signs a_x_ways_signs_cells a_x_ways_gone a_x_ways_gone_cells a_m a_m_board a_m_area a_m_x0 a_m_y0 a_m_x1 a_m_y1 a_m_head a_m_said a_m_low a_m_high a_m_least a_m_price a_m_way a_m_lineFirst a_m_lineLast a_m_left a_m_pile a_m_rest a_m_read a_m_measure a_m_wentBack X225 M2) := by rw [hX1]; exact hw
          clear hX1 hc hc1
          refine lv_pop S.1 S.2.1 dL_law_592 rfl ?_
          refine lv_aload_n S.1 S.2.1 dL_law_593 rfl (lv_at hl 2 rfl) ?_
          refine lv_aload_n S.1 S.2.1 dL_law_594 rfl (lv_at hl 0 rfl) ?_
          refine lv_iload_n S.1 S.2.1 dL_law_595 rfl (lv_at hl 3 rfl) ?_
          refine lv_iconst (v := 1) S.1 S.2.1 dL_law_596 (by decide) ?_
          refine lv_iadd S.1 S.2.1 dL_law_597 ?_
          obtain ⟨hin, h⟩ := z_ald_e h
          refine va_sld S.1 S.2.1 hX hbl hbA hw.2.2 hin dL_law_598 ?_
          obtain ⟨y241, ey⟩ : ∃ y, y = xs ((x3 + 1)).toNatClampNeg := ⟨_, rfl⟩
          rw [← ey] at h ⊢
          clear ey
          obtain ⟨y242, M243, hc, h⟩ := z_b2_e h
          obtain ⟨t244, t245, t246, t247, hc1, hX1⟩ := M_c_doubt_e hc
          refine z_callVi (As := [.int y241]) (rest := []) S (c_X8_doubt l D cI cJ cZ a_m a_m_board a_m_area a_m_x0 a_m_y0 a_m_x1 a_m_y1 a_m_head a_m_said a_m_low a_m_high a_m_least a_m_price a_m_way a_m_lineFirst a_m_lineLast a_m_left a_m_pile a_m_rest a_m_read a_m_measure a_m_wentBack (M_run M2) (M_signs M2) (M_lastSigns M2) (M_dirt M2) (M_time M2) (M_lineMany M2) (M_notSign M2) (M_notKind M2) (M_measureMany M2) (M_area M2) (M_y0 M2) (M_y1 M2) (M_said M2) (M_low M2) (M_high M2) (M_least M2) (M_price M2) (M_rest M2) (M_read M2) K y241 _ hc1) (cwV 1 S.2.2.2.2 (gl_V gw_930 gw_931 gw_932 gw_58 gw_933) rfl rfl rfl hd_X8_doubt ⟨Nat.le_of_ble_eq_true rfl, Nat.le_of_ble_eq_true rfl⟩) hK hA hw [52, 54, 56, 58, 60, 61, 62, 63, 64, 70, 71] (by decide) rfl rfl (none :: none :: none :: none :: none :: none :: none :: none :: none :: none :: none :: none :: none :: none :: none :: none :: none :: none :: none :: none :: none :: none :: none :: none :: none :: none :: none :: none :: none :: none :: none :: none :: none :: none :: none :: none :: none :: none :: none :: none :: none :: none :: none :: none :: none :: none :: none :: none :: none :: none :: none :: none :: some 0 :: none :: some 1 :: none :: some 2 :: none :: some 3 :: none :: some 4 :: some 5 :: some 6 :: some 7 :: some 8 :: none :: none :: none :: none :: none :: some 9 :: some 10 :: none :: none :: []) rfl (by decide) 52 rfl rfl hl.1 rfl rfl (lv_room (Nat.le_of_ble_eq_true rfl)) ⟨Nat.le_of_ble_eq_true rfl, Nat.le_of_ble_eq_true rfl⟩ dL_law_599 (fun H locs hw => ?_)
          replace hw : zW D A s H locs (wd_L cI cJ cZ a_x a_x_board a_x_board_rows a_x_ruled a_x_ruled_firsts a_x_ruled_firsts_cells a_x_ruled_lasts a_x_ruled_lasts_cells a_x_signs a_x_signs_left a_x_signs_left_rows a_x_signs_queue a_x_signs_queue_cells a_x_signs_facts a_x_signs_facts_cells a_x_signs_places a_x_signs_places_cells a_x_signs_told a_x_signs_told_cells a_x_kinds a_x_kinds_lows a_x_kinds_lows_cells a_x_kinds_highs a_x_kinds_highs_cells a_x_kinds_heights a_x_kinds_heights_cells a_x_kinds_prices a_x_kinds_prices_cells a_x_reading a_x_reading_costs a_x_reading_costs_cells a_x_reading_nexts a_x_reading_nexts_cells a_x_reading_rests a_x_reading_rests_cells a_x_reading_aheads a_x_reading_aheads_cells a_x_reading_coming a_x_reading_coming_cells a_x_reading_meanings a_x_reading_meanings_cells a_x_reading_doubts a_x_reading_doubts_cells a_x_reading_measureOf a_x_reading_measureOf_cells a_x_reading_times a_x_reading_times_cells a_x_ways a_x_ways_signs a_x_ways_signs_cells a_x_ways_gone a_x_ways_gone_cells a_m a_m_board a_m_area a_m_x0 a_m_y0 a_m_x1 a_m_y1 a_m_head a_m_said a_m_low a_m_high a_m_least a_m_price a_m_way a_m_lineFirst a_m_lineLast a_m_left a_m_pile a_m_rest a_m_read a_m_measure a_m_wentBack X225 M243) := by rw [hX1]; exact hw
          clear hX1 hc hc1
          refine lv_pop S.1 S.2.1 dL_law_602 rfl ?_
          refine lv_goto (tgt := 754) S.1 S.2.1 dL_law_603 (by decide) ?_
          refine z_iinc S (i := 3) (k := 3) (v := x3 + 6) hl rfl (by decide) rfl (fun v => (3, .int v) :: [(0, .ref b), (1, .ref a_x), (2, .ref a_m)]) (fun _ => rfl) h dL_law_754 (fun y248 ls hl h => ?_)
          replace hl : lv_has ls 4 [(3, .int y248), (0, .ref b), (1, .ref a_x), (2, .ref a_m)] := hl
          refine lv_goto (tgt := 18) S.1 S.2.1 dL_law_757 (by decide) ?_
          exact ih_18 X225 M243 y248 h _ _ ls hw (lv_sub hl [1, 2, 3, 0] rfl)
        refine z_ife h (fun e33_14 h => ?_) (fun ne33_14 h => ?_)
        · refine lv_tableIn (tgt := 606) S.1 S.2.1 dL_law_33 (by rw [e33_14]; decide) (by rw [e33_14]; decide) (by rw [e33_14]; rfl) (by decide) ?_
          refine lv_aload_n S.1 S.2.1 dL_law_606 rfl (lv_at hl 1 rfl) ?_
          obtain ⟨y249, X250, hc, h⟩ := z_b2_e h
          obtain ⟨t251, t252, t253, t254, t255, t256, t257, t258, t259, t260, t261, t262, t263, t264, t265, hc1, hX1⟩ := X_c_question_e hc
          refine z_callVi (As := []) (rest := []) S (c_X7_question l D cI cJ cZ a_x a_x_board a_x_ruled a_x_signs a_x_signs_left a_x_signs_queue a_x_signs_facts a_x_signs_facts_cells a_x_signs_places a_x_signs_places_cells a_x_signs_told a_x_signs_told_cells a_x_kinds a_x_kinds_lows a_x_kinds_lows_cells a_x_kinds_highs a_x_kinds_highs_cells a_x_kinds_heights a_x_kinds_heights_cells a_x_kinds_prices a_x_kinds_prices_cells a_x_reading a_x_reading_costs a_x_reading_costs_cells a_x_reading_nexts a_x_reading_nexts_cells a_x_reading_rests a_x_reading_rests_cells a_x_reading_aheads a_x_reading_aheads_cells a_x_reading_coming a_x_reading_coming_cells a_x_reading_meanings a_x_reading_meanings_cells a_x_reading_doubts a_x_reading_doubts_cells a_x_reading_measureOf a_x_reading_measureOf_cells a_x_reading_times a_x_reading_times_cells a_x_ways (X_leastRun X1) (X_found X1) (X_readingIsOld X1) (X_signs_size X1) (X_signs_sizeBefore X1) (X_signs_facts_cells X1) (X_signs_places_cells X1) (X_signs_told_cells X1) (X_kinds_dirt X1) (X_kinds_time X1) (X_kinds_lows_cells X1) (X_kinds_highs_cells X1) (X_kinds_heights_cells X1) (X_kinds_prices_cells X1) (X_reading_size X1) (X_reading_states X1) (X_reading_total X1) (X_reading_measures X1) (X_reading_doubtsAreOld X1) (X_reading_costs_cells X1) (X_reading_nexts_cells X1) (X_reading_rests_cells X1) (X_reading_aheads_cells X1) (X_reading_coming_cells X1) (X_reading_meanings_cells X1) (X_reading_doubts_cells X1) (X_reading_measureOf_cells X1) (X_reading_times_cells X1) K _ hc1) (cwV 0 S.2.2.2.2 (gl_V gw_629 gw_630 gw_631 gw_50 gw_632) rfl rfl rfl hd_X7_question ⟨Nat.le_of_ble_eq_true rfl, Nat.le_of_ble_eq_true rfl⟩) hK hA hw (0 :: 8 :: 13 :: 14 :: 15 :: 16 :: 17 :: 18 :: 19 :: 20 :: 21 :: 22 :: 23 :: 24 :: 25 :: 26 :: 27 :: 28 :: 29 :: 30 :: 31 :: 32 :: 33 :: 34 :: 35 :: 36 :: 37 :: 38 :: 39 :: 40 :: 41 :: 42 :: 43 :: 44 :: 45 :: 46 :: []) (by decide) rfl rfl (some 0 :: none :: none :: none :: none :: none :: none :: none :: some 1 :: none :: none :: none :: none :: some 2 :: some 3 :: some 4 :: some 5 :: some 6 :: some 7 :: some 8 :: some 9 :: some 10 :: some 11 :: some 12 :: some 13 :: some 14 :: some 15 :: some 16 :: some 17 :: some 18 :: some 19 :: some 20 :: some 21 :: some 22 :: some 23 :: some 24 :: some 25 :: some 26 :: some 27 :: some 28 :: some 29 :: some 30 :: some 31 :: some 32 :: some 33 :: some 34 :: some 35 :: none :: none :: none :: none :: none :: none :: none :: none :: none :: none :: none :: none :: none :: none :: none :: none :: none :: none :: none :: none :: none :: none :: none :: none :: none :: none :: none :: []) rfl (by decide) 0 rfl rfl hl.1 rfl rfl (lv_room (Nat.le_of_ble_eq_true rfl)) ⟨Nat.le_of_ble_eq_true rfl, Nat.le_of_ble_eq_true rfl⟩ dL_law_607 (fun H locs hw => ?_)
          replace hw : zW D A s H locs (wd_L cI cJ cZ a_x a_x_board a_x_board_rows a_x_ruled a_x_ruled_firsts a_x_ruled_firsts_cells a_x_ruled_lasts a_x_ruled_lasts_cells a_x_signs a_x_signs_left a_x_signs_left_rows a_x_signs_queue a_x_signs_queue_cells a_x_signs_facts a_x_signs_facts_cells a_x_signs_places a_x_signs_places_cells a_x_signs_told a_x_signs_told_cells a_x_kinds a_x_kinds_lows a_x_kinds_lows_cells a_x_kinds_highs a_x_kinds_highs_cells a_x_kinds_heights a_x_kinds_heights_cells a_x_kinds_prices a_x_kinds_prices_cells a_x_reading a_x_reading_costs a_x_reading_costs_cells a_x_reading_nexts a_x_reading_nexts_cells a_x_reading_rests a_x_reading_rests_cells a_x_reading_aheads a_x_reading_aheads_cells a_x_reading_coming a_x_reading_coming_cells a_x_reading_meanings a_x_reading_meanings_cells a_x_reading_doubts a_x_reading_doubts_cells a_x_reading_measureOf a_x_reading_measureOf_cells a_x_reading_times a_x_reading_times_cells a_x_ways a_x_ways_signs a_x_ways_signs_cells a_x_ways_gone a_x_ways_gone_cells a_m a_m_board a_m_area a_m_x0 a_m_y0 a_m_x1 a_m_y1 a_m_head a_m_said a_m_low a_m_high a_m_least a_m_price a_m_way a_m_lineFirst a_m_lineLast a_m_left a_m_pile a_m_rest a_m_read a_m_measure a_m_wentBack X250 M2) := by rw [hX1]; exact hw
          clear hX1 hc hc1
          refine lv_pop S.1 S.2.1 dL_law_610 rfl ?_
          refine lv_aload_n S.1 S.2.1 dL_law_611 rfl (lv_at hl 2 rfl) ?_
          obtain ⟨y266, M267, hc, h⟩ := z_b2_e h
          obtain ⟨t268, t269, t270, t271, hc1, hX1⟩ := M_c_question_e hc
          refine z_callVi (As := []) (rest := []) S (c_X8_question l D cI cJ cZ a_m a_m_board a_m_area a_m_x0 a_m_y0 a_m_x1 a_m_y1 a_m_head a_m_said a_m_low a_m_high a_m_least a_m_price a_m_way a_m_lineFirst a_m_lineLast a_m_left a_m_pile a_m_rest a_m_read a_m_measure a_m_wentBack (M_run M2) (M_signs M2) (M_lastSigns M2) (M_dirt M2) (M_time M2) (M_lineMany M2) (M_notSign M2) (M_notKind M2) (M_measureMany M2) (M_area M2) (M_y0 M2) (M_y1 M2) (M_said M2) (M_low M2) (M_high M2) (M_least M2) (M_price M2) (M_rest M2) (M_read M2) K _ hc1) (cwV 0 S.2.2.2.2 (gl_V gw_938 gw_939 gw_940 gw_58 gw_941) rfl rfl rfl hd_X8_question ⟨Nat.le_of_ble_eq_true rfl, Nat.le_of_ble_eq_true rfl⟩) hK hA hw [52, 54, 56, 58, 60, 61, 62, 63, 64, 70, 71] (by decide) rfl rfl (none :: none :: none :: none :: none :: none :: none :: none :: none :: none :: none :: none :: none :: none :: none :: none :: none :: none :: none :: none :: none :: none :: none :: none :: none :: none :: none :: none :: none :: none :: none :: none :: none :: none :: none :: none :: none :: none :: none :: none :: none :: none :: none :: none :: none :: none :: none :: none :: none :: none :: none :: none :: some 0 :: none :: some 1 :: none :: some 2 :: none :: some 3 :: none :: some 4 :: some 5 :: some 6 :: some 7 :: some 8 :: none :: none :: none :: none :: none :: some 9 :: some 10 :: none :: none :: []) rfl (by decide) 52 rfl rfl hl.1 rfl rfl (lv_room (Nat.le_of_ble_eq_true rfl)) ⟨Nat.le_of_ble_eq_true rfl, Nat.le_of_ble_eq_true rfl⟩ dL_law_612 (fun H locs hw => ?_)
          replace hw : zW D A s H locs (wd_L cI cJ cZ a_x a_x_board a_x_board_rows a_x_ruled a_x_ruled_firsts a_x_ruled_firsts_cells a_x_ruled_lasts a_x_ruled_lasts_cells a_x_signs a_x_signs_left a_x_signs_left_rows a_x_signs_queue a_x_signs_queue_cells a_x_signs_facts a_x_signs_facts_cells a_x_signs_places a_x_signs_places_cells a_x_signs_told a_x_signs_told_cells a_x_kinds a_x_kinds_lows a_x_kinds_lows_cells a_x_kinds_highs a_x_kinds_highs_cells a_x_kinds_heights a_x_kinds_heights_cells a_x_kinds_prices a_x_kinds_prices_cells a_x_reading a_x_reading_costs a_x_reading_costs_cells a_x_reading_nexts a_x_reading_nexts_cells a_x_reading_rests a_x_reading_rests_cells a_x_reading_aheads a_x_reading_aheads_cells a_x_reading_coming a_x_reading_coming_cells a_x_reading_meanings a_x_reading_meanings_cells a_x_reading_doubts a_x_reading_doubts_cells a_x_reading_measureOf a_x_reading_measureOf_cells a_x_reading_times a_x_reading_times_cells a_x_ways a_x_ways_signs a_x_ways_signs_cells a_x_ways_gone a_x_ways_gone_cells a_m a_m_board a_m_area a_m_x0 a_m_y0 a_m_x1 a_m_y1 a_m_head a_m_said a_m_low a_m_high a_m_least a_m_price a_m_way a_m_lineFirst a_m_lineLast a_m_left a_m_pile a_m_rest a_m_read a_m_measure a_m_wentBack X250 M267) := by rw [hX1]; exact hw
          clear hX1 hc hc1
          refine lv_pop S.1 S.2.1 dL_law_615 rfl ?_
          refine lv_goto (tgt := 754) S.1 S.2.1 dL_law_616 (by decide) ?_
          refine z_iinc S (i := 3) (k := 3) (v := x3 + 6) hl rfl (by decide) rfl (fun v => (3, .int v) :: [(0, .ref b), (1, .ref a_x), (2, .ref a_m)]) (fun _ => rfl) h dL_law_754 (fun y272 ls hl h => ?_)
          replace hl : lv_has ls 4 [(3, .int y272), (0, .ref b), (1, .ref a_x), (2, .ref a_m)] := hl
          refine lv_goto (tgt := 18) S.1 S.2.1 dL_law_757 (by decide) ?_
          exact ih_18 X250 M267 y272 h _ _ ls hw (lv_sub hl [1, 2, 3, 0] rfl)
        refine z_ife h (fun e33_15 h => ?_) (fun ne33_15 h => ?_)
        · refine lv_tableIn (tgt := 619) S.1 S.2.1 dL_law_33 (by rw [e33_15]; decide) (by rw [e33_15]; decide) (by rw [e33_15]; rfl) (by decide) ?_
          refine lv_aload_n S.1 S.2.1 dL_law_619 rfl (lv_at hl 1 rfl) ?_
          obtain ⟨y273, X274, hc, h⟩ := z_b2_e h
          obtain ⟨t275, t276, t277, t278, t279, t280, t281, t282, t283, t284, t285, t286, hc1, hX1⟩ := X_c_measures_e hc
          refine z_callVi (As := []) (rest := []) S (c_X7_measures l D cI cJ cZ a_x a_x_board a_x_ruled a_x_signs a_x_signs_left a_x_signs_queue a_x_signs_facts a_x_signs_facts_cells a_x_signs_places a_x_signs_places_cells a_x_signs_told a_x_signs_told_cells a_x_kinds a_x_kinds_lows a_x_kinds_lows_cells a_x_kinds_highs a_x_kinds_highs_cells a_x_kinds_heights a_x_kinds_heights_cells a_x_kinds_prices a_x_kinds_prices_cells a_x_reading a_x_reading_costs a_x_reading_costs_cells a_x_reading_nexts a_x_reading_nexts_cells a_x_reading_rests a_x_reading_rests_cells a_x_reading_aheads a_x_reading_coming a_x_reading_meanings a_x_reading_meanings_cells a_x_reading_doubts a_x_reading_measureOf a_x_reading_measureOf_cells a_x_reading_times a_x_reading_times_cells a_x_ways (X_leastRun X1) (X_found X1) (X_readingIsOld X1) (X_signs_size X1) (X_signs_sizeBefore X1) (X_signs_facts_cells X1) (X_signs_places_cells X1) (X_signs_told_cells X1) (X_kinds_dirt X1) (X_kinds_time X1) (X_kinds_lows_cells X1) (X_kinds_highs_cells X1) (X_kinds_heights_cells X1) (X_kinds_prices_cells X1) (X_reading_size X1) (X_reading_states X1) (X_reading_total X1) (X_reading_measures X1) (X_reading_doubtsAreOld X1) (X_reading_costs_cells X1) (X_reading_nexts_cells X1) (X_reading_rests_cells X1) (X_reading_meanings_cells X1) (X_reading_measureOf_cells X1) (X_reading_times_cells X1) K _ hc1) (cwV 0 S.2.2.2.2 (gl_V gw_637 gw_638 gw_639 gw_50 gw_640) rfl rfl rfl hd_X7_measures ⟨Nat.le_of_ble_eq_true rfl, Nat.le_of_ble_eq_true rfl⟩) hK hA hw (0 :: 8 :: 13 :: 14 :: 15 :: 16 :: 17 :: 18 :: 19 :: 20 :: 21 :: 22 :: 23 :: 24 :: 25 :: 26 :: 27 :: 28 :: 29 :: 30 :: 31 :: 32 :: 33 :: 34 :: 39 :: 40 :: 43 :: 44 :: 45 :: 46 :: []) (by decide) rfl rfl (some 0 :: none :: none :: none :: none :: none :: none :: none :: some 1 :: none :: none :: none :: none :: some 2 :: some 3 :: some 4 :: some 5 :: some 6 :: some 7 :: some 8 :: some 9 :: some 10 :: some 11 :: some 12 :: some 13 :: some 14 :: some 15 :: some 16 :: some 17 :: some 18 :: some 19 :: some 20 :: some 21 :: some 22 :: some 23 :: none :: none :: none :: none :: some 24 :: some 25 :: none :: none :: some 26 :: some 27 :: some 28 :: some 29 :: none :: none :: none :: none :: none :: none :: none :: none :: none :: none :: none :: none :: none :: none :: none :: none :: none :: none :: none :: none :: none :: none :: none :: none :: none :: none :: none :: []) rfl (by decide) 0 rfl rfl hl.1 rfl rfl (lv_room (Nat.le_of_ble_eq_true rfl)) ⟨Nat.le_of_ble_eq_true rfl, Nat.le_of_ble_eq_true rfl⟩ dL_law_620 (fun H locs hw => ?_)
          replace hw : zW D A s H locs (wd_L cI cJ cZ a_x a_x_board a_x_board_rows a_x_ruled a_x_ruled_firsts a_x_ruled_firsts_cells a_x_ruled_lasts a_x_ruled_lasts_cells a_x_signs a_x_signs_left a_x_signs_left_rows a_x_signs_queue a_x_signs_queue_cells a_x_signs_facts a_x_signs_facts_cells a_x_signs_places a_x_signs_places_cells a_x_signs_told a_x_signs_told_cells a_x_kinds a_x_kinds_lows a_x_kinds_lows_cells a_x_kinds_highs a_x_kinds_highs_cells a_x_kinds_heights a_x_kinds_heights_cells a_x_kinds_prices a_x_kinds_prices_cells a_x_reading a_x_reading_costs a_x_reading_costs_cells a_x_reading_nexts a_x_reading_nexts_cells a_x_reading_rests a_x_reading_rests_cells a_x_reading_aheads a_x_reading_aheads_cells a_x_reading_coming a_x_reading_coming_cells a_x_reading_meanings a_x_reading_meanings_cells a_x_reading_doubts a_x_reading_doubts_cells a_x_reading_measureOf a_x_reading_measureOf_cells a_x_reading_times a_x_reading_times_cells a_x_ways a_x_ways_signs a_x_ways_signs_cells a_x_ways_gone a_x_ways_gone_cells a_m a_m_board a_m_area a_m_x0 a_m_y0 a_m_x1 a_m_y1 a_m_head a_m_said a_m_low a_m_high a_m_least a_m_price a_m_way a_m_lineFirst a_m_lineLast a_m_left a_m_pile a_m_rest a_m_read a_m_measure a_m_wentBack X274 M2) := by rw [hX1]; exact hw
          clear hX1 hc hc1
          refine lv_pop S.1 S.2.1 dL_law_623 rfl ?_
          refine lv_aload_n S.1 S.2.1 dL_law_624 rfl (lv_at hl 2 rfl) ?_
          obtain ⟨y287, M288, hc, h⟩ := z_b2_e h
          obtain ⟨t289, t290, t291, t292, hc1, hX1⟩ := M_c_measures_e hc
          refine z_callVi (As := []) (rest := []) S (c_X8_measures l D cI cJ cZ a_m a_m_board a_m_area a_m_x0 a_m_y0 a_m_x1 a_m_y1 a_m_head a_m_said a_m_low a_m_high a_m_least a_m_price a_m_way a_m_lineFirst a_m_lineLast a_m_left a_m_pile a_m_rest a_m_read a_m_measure a_m_wentBack (M_run M2) (M_signs M2) (M_lastSigns M2) (M_dirt M2) (M_time M2) (M_lineMany M2) (M_notSign M2) (M_notKind M2) (M_measureMany M2) (M_area M2) (M_y0 M2) (M_y1 M2) (M_said M2) (M_low M2) (M_high M2) (M_least M2) (M_price M2) (M_rest M2) (M_read M2) (M_measure M2) K _ hc1) (cwV 0 S.2.2.2.2 (gl_V gw_942 gw_943 gw_944 gw_58 gw_945) rfl rfl rfl hd_X8_measures ⟨Nat.le_of_ble_eq_true rfl, Nat.le_of_ble_eq_true rfl⟩) hK hA hw [52, 54, 56, 58, 60, 61, 62, 63, 64, 70, 71, 72] (by decide) rfl rfl (none :: none :: none :: none :: none :: none :: none :: none :: none :: none :: none :: none :: none :: none :: none :: none :: none :: none :: none :: none :: none :: none :: none :: none :: none :: none :: none :: none :: none :: none :: none :: none :: none :: none :: none :: none :: none :: none :: none :: none :: none :: none :: none :: none :: none :: none :: none :: none :: none :: none :: none :: none :: some 0 :: none :: some 1 :: none :: some 2 :: none :: some 3 :: none :: some 4 :: some 5 :: some 6 :: some 7 :: some 8 :: none :: none :: none :: none :: none :: some 9 :: some 10 :: some 11 :: none :: []) rfl (by decide) 52 rfl rfl hl.1 rfl rfl (lv_room (Nat.le_of_ble_eq_true rfl)) ⟨Nat.le_of_ble_eq_true rfl, Nat.le_of_ble_eq_true rfl⟩ dL_law_625 (fun H locs hw => ?_)
          replace hw : zW D A s H locs (wd_L cI cJ cZ a_x a_x_board a_x_board_rows a_x_ruled a_x_ruled_firsts a_x_ruled_firsts_cells a_x_ruled_lasts a_x_ruled_lasts_cells a_x_signs a_x_signs_left a_x_signs_left_rows a_x_signs_queue a_x_signs_queue_cells a_x_signs_facts a_x_signs_facts_cells a_x_signs_places a_x_signs_places_cells a_x_signs_told a_x_signs_told_cells a_x_kinds a_x_kinds_lows a_x_kinds_lows_cells a_x_kinds_highs a_x_kinds_highs_cells a_x_kinds_heights a_x_kinds_heights_cells a_x_kinds_prices a_x_kinds_prices_cells a_x_reading a_x_reading_costs a_x_reading_costs_cells a_x_reading_nexts a_x_reading_nexts_cells a_x_reading_rests a_x_reading_rests_cells a_x_reading_aheads a_x_reading_aheads_cells a_x_reading_coming a_x_reading_coming_cells a_x_reading_meanings a_x_reading_meanings_cells a_x_reading_doubts a_x_reading_doubts_cells a_x_reading_measureOf a_x_reading_measureOf_cells a_x_reading_times a_x_reading_times_cells a_x_ways a_x_ways_signs a_x_ways_signs_cells a_x_ways_gone a_x_ways_gone_cells a_m a_m_board a_m_area a_m_x0 a_m_y0 a_m_x1 a_m_y1 a_m_head a_m_said a_m_low a_m_high a_m_least a_m_price a_m_way a_m_lineFirst a_m_lineLast a_m_left a_m_pile a_m_rest a_m_read a_m_measure a_m_wentBack X274 M288) := by rw [hX1]; exact hw
          clear hX1 hc hc1
          refine lv_pop S.1 S.2.1 dL_law_628 rfl ?_
          refine lv_goto (tgt := 754) S.1 S.2.1 dL_law_629 (by decide) ?_
          refine z_iinc S (i := 3) (k := 3) (v := x3 + 6) hl rfl (by decide) rfl (fun v => (3, .int v) :: [(0, .ref b), (1, .ref a_x), (2, .ref a_m)]) (fun _ => rfl) h dL_law_754 (fun y293 ls hl h => ?_)
          replace hl : lv_has ls 4 [(3, .int y293), (0, .ref b), (1, .ref a_x), (2, .ref a_m)] := hl
          refine lv_goto (tgt := 18) S.1 S.2.1 dL_law_757 (by decide) ?_
          exact ih_18 X274 M288 y293 h _ _ ls hw (lv_sub hl [1, 2, 3, 0] rfl)
        refine z_ife h (fun e33_16 h => ?_) (fun ne33_16 h => ?_)
        · refine lv_tableIn (tgt := 632) S.1 S.2.1 dL_law_33 (by rw [e33_16]; decide) (by rw [e33_16]; decide) (by rw [e33_16]; rfl) (by decide) ?_
          refine lv_aload_n S.1 S.2.1 dL_law_632 rfl (lv_at hl 1 rfl) ?_
          refine lv_aload_n S.1 S.2.1 dL_law_633 rfl (lv_at hl 0 rfl) ?_
          refine lv_iload_n S.1 S.2.1 dL_law_634 rfl (lv_at hl 3 rfl) ?_
          refine lv_iconst (v := 1) S.1 S.2.1 dL_law_635 (by decide) ?_
          refine lv_iadd S.1 S.2.1 dL_law_636 ?_
          obtain ⟨hin, h⟩ := z_ald_e h
          refine va_sld S.1 S.2.1 hX hbl hbA hw.2.2 hin dL_law_637 ?_
          obtain ⟨y294, ey⟩ : ∃ y, y = xs ((x3 + 1)).toNatClampNeg := ⟨_, rfl⟩
          rw [← ey] at h ⊢
          clear ey
          refine lv_aload_n S.1 S.2.1 dL_law_638 rfl (lv_at hl 0 rfl) ?_
          refine lv_iload_n S.1 S.2.1 dL_law_639 rfl (lv_at hl 3 rfl) ?_
          refine lv_iconst (v := 2) S.1 S.2.1 dL_law_640 (by decide) ?_
          refine lv_iadd S.1 S.2.1 dL_law_641 ?_
          obtain ⟨hin, h⟩ := z_ald_e h
          refine va_sld S.1 S.2.1 hX hbl hbA hw.2.2 hin dL_law_642 ?_
          obtain ⟨y295, ey⟩ : ∃ y, y = xs ((x3 + 2)).toNatClampNeg := ⟨_, rfl⟩
          rw [← ey] at h ⊢
          clear ey
          refine lv_aload_n S.1 S.2.1 dL_law_643 rfl (lv_at hl 0 rfl) ?_
          refine lv_iload_n S.1 S.2.1 dL_law_644 rfl (lv_at hl 3 rfl) ?_
          refine lv_iconst (v := 3) S.1 S.2.1 dL_law_645 (by decide) ?_
          refine lv_iadd S.1 S.2.1 dL_law_646 ?_
          obtain ⟨hin, h⟩ := z_ald_e h
          refine va_sld S.1 S.2.1 hX hbl hbA hw.2.2 hin dL_law_647 ?_
          obtain ⟨y296, ey⟩ : ∃ y, y = xs ((x3 + 3)).toNatClampNeg := ⟨_, rfl⟩
          rw [← ey] at h ⊢
          clear ey
          obtain ⟨y297, X298, hc, h⟩ := z_b2_e h
          obtain ⟨t299, t300, t301, t302, t303, t304, t305, t306, t307, t308, t309, t310, hc1, hX1⟩ := X_c_note_e hc
          refine z_callVi (As := [.int y294, .int y295, .int y296]) (rest := []) S (c_X7_note l D cI cJ cZ a_x a_x_board a_x_ruled a_x_signs a_x_signs_left a_x_signs_queue a_x_signs_facts a_x_signs_facts_cells a_x_signs_places a_x_signs_places_cells a_x_signs_told a_x_signs_told_cells a_x_kinds a_x_kinds_lows a_x_kinds_lows_cells a_x_kinds_highs a_x_kinds_highs_cells a_x_kinds_heights a_x_kinds_heights_cells a_x_kinds_prices a_x_kinds_prices_cells a_x_reading a_x_reading_costs a_x_reading_costs_cells a_x_reading_nexts a_x_reading_nexts_cells a_x_reading_rests a_x_reading_rests_cells a_x_reading_aheads a_x_reading_coming a_x_reading_meanings a_x_reading_meanings_cells a_x_reading_doubts a_x_reading_measureOf a_x_reading_measureOf_cells a_x_reading_times a_x_reading_times_cells a_x_ways (X_leastRun X1) (X_found X1) (X_readingIsOld X1) (X_signs_size X1) (X_signs_sizeBefore X1) (X_signs_facts_cells X1) (X_signs_places_cells X1) (X_signs_told_cells X1) (X_kinds_dirt X1) (X_kinds_time X1) (X_kinds_lows_cells X1) (X_kinds_highs_cells X1) (X_kinds_heights_cells X1) (X_kinds_prices_cells X1) (X_reading_size X1) (X_reading_states X1) (X_reading_total X1) (X_reading_measures X1) (X_reading_doubtsAreOld X1) (X_reading_costs_cells X1) (X_reading_nexts_cells X1) (X_reading_rests_cells X1) (X_reading_meanings_cells X1) (X_reading_measureOf_cells X1) (X_reading_times_cells X1) K y294 y295 y296 _ hc1) (cwV 3 S.2.2.2.2 (gl_V gw_645 gw_646 gw_647 gw_50 gw_648) rfl rfl rfl hd_X7_note ⟨Nat.le_of_ble_eq_true rfl, Nat.le_of_ble_eq_true rfl⟩) hK hA hw (0 :: 8 :: 13 :: 14 :: 15 :: 16 :: 17 :: 18 :: 19 :: 20 :: 21 :: 22 :: 23 :: 24 :: 25 :: 26 :: 27 :: 28 :: 29 :: 30 :: 31 :: 32 :: 33 :: 34 :: 39 :: 40 :: 43 :: 44 :: 45 :: 46 :: []) (by decide) rfl rfl (some 0 :: none :: none :: none :: none :: none :: none :: none :: some 1 :: none :: none :: none :: none :: some 2 :: some 3 :: some 4 :: some 5 :: some 6 :: some 7 :: some 8 :: some 9 :: some 10 :: some 11 :: some 12 :: some 13 :: some 14 :: some 15 :: some 16 :: some 17 :: some 18 :: some 19 :: some 20 :: some 21 :: some 22 :: some 23 :: none :: none :: none :: none :: some 24 :: some 25 :: none :: none :: some 26 :: some 27 :: some 28 :: some 29 :: none :: none :: none :: none :: none :: none :: none :: none :: none :: none :: none :: none :: none :: none :: none :: none :: none :: none :: none :: none :: none :: none :: none :: none :: none :: none :: none :: []) rfl (by decide) 0 rfl rfl hl.1 rfl rfl (lv_room (Nat.le_of_ble_eq_true rfl)) ⟨Nat.le_of_ble_eq_true rfl, Nat.le_of_ble_eq_true rfl⟩ dL_law_648 (fun H locs hw => ?_)
          replace hw : zW D A s H locs (wd_L cI cJ cZ a_x a_x_board a_x_board_rows a_x_ruled a_x_ruled_firsts a_x_ruled_firsts_cells a_x_ruled_lasts a_x_ruled_lasts_cells a_x_signs a_x_signs_left a_x_signs_left_rows a_x_signs_queue a_x_signs_queue_cells a_x_signs_facts a_x_signs_facts_cells a_x_signs_places a_x_signs_places_cells a_x_signs_told a_x_signs_told_cells a_x_kinds a_x_kinds_lows a_x_kinds_lows_cells a_x_kinds_highs a_x_kinds_highs_cells a_x_kinds_heights a_x_kinds_heights_cells a_x_kinds_prices a_x_kinds_prices_cells a_x_reading a_x_reading_costs a_x_reading_costs_cells a_x_reading_nexts a_x_reading_nexts_cells a_x_reading_rests a_x_reading_rests_cells a_x_reading_aheads a_x_reading_aheads_cells a_x_reading_coming a_x_reading_coming_cells a_x_reading_meanings a_x_reading_meanings_cells a_x_reading_doubts a_x_reading_doubts_cells a_x_reading_measureOf a_x_reading_measureOf_cells a_x_reading_times a_x_reading_times_cells a_x_ways a_x_ways_signs a_x_ways_signs_cells a_x_ways_gone a_x_ways_gone_cells a_m a_m_board a_m_area a_m_x0 a_m_y0 a_m_x1 a_m_y1 a_m_head a_m_said a_m_low a_m_high a_m_least a_m_price a_m_way a_m_lineFirst a_m_lineLast a_m_left a_m_pile a_m_rest a_m_read a_m_measure a_m_wentBack X298 M2) := by rw [hX1]; exact hw
          clear hX1 hc hc1
          refine lv_pop S.1 S.2.1 dL_law_651 rfl ?_
          refine lv_aload_n S.1 S.2.1 dL_law_652 rfl (lv_at hl 2 rfl) ?_
          refine lv_aload_n S.1 S.2.1 dL_law_653 rfl (lv_at hl 0 rfl) ?_
          refine lv_iload_n S.1 S.2.1 dL_law_654 rfl (lv_at hl 3 rfl) ?_
          refine lv_iconst (v := 1) S.1 S.2.1 dL_law_655 (by decide) ?_
          refine lv_iadd S.1 S.2.1 dL_law_656 ?_
          obtain ⟨hin, h⟩ := z_ald_e h
          refine va_sld S.1 S.2.1 hX hbl hbA hw.2.2 hin dL_law_657 ?_
          obtain ⟨y311, ey⟩ : ∃ y, y = xs ((x3 + 1)).toNatClampNeg := ⟨_, rfl⟩
          rw [← ey] at h ⊢
          clear ey
          refine lv_aload_n S.1 S.2.1 dL_law_658 rfl (lv_at hl 0 rfl) ?_
          refine lv_iload_n S.1 S.2.1 dL_law_659 rfl (lv_at hl 3 rfl) ?_
          refine lv_iconst (v := 2) S.1 S.2.1 dL_law_660 (by decide) ?_
          refine lv_iadd S.1 S.2.1 dL_law_661 ?_
          obtain ⟨hin, h⟩ := z_ald_e h
          refine va_sld S.1 S.2.1 hX hbl hbA hw.2.2 hin dL_law_662 ?_
          obtain ⟨y312, ey⟩ : ∃ y, y = xs ((x3 + 2)).toNatClampNeg := ⟨_, rfl⟩
          rw [← ey] at h ⊢
          clear ey
          refine lv_aload_n S.1 S.2.1 dL_law_663 rfl (lv_at hl 0 rfl) ?_
          refine lv_iload_n S.1 S.2.1 dL_law_664 rfl (lv_at hl 3 rfl) ?_
          refine lv_iconst (v := 3) S.1 S.2.1 dL_law_665 (by decide) ?_
          refine lv_iadd S.1 S.2.1 dL_law_666 ?_
          obtain ⟨hin, h⟩ := z_ald_e h
          refine va_sld S.1 S.2.1 hX hbl hbA hw.2.2 hin dL_law_667 ?_
          obtain ⟨y313, ey⟩ : ∃ y, y = xs ((x3 + 3)).toNatClampNeg := ⟨_, rfl⟩
          rw [← ey] at h ⊢
          clear ey
          obtain ⟨y314, M315, hc, h⟩ := z_b2_e h
          obtain ⟨t316, t317, t318, t319, t320, t321, t322, hc1, hX1⟩ := M_c_note_e hc
          refine z_callVi (As := [.int y311, .int y312, .int y313]) (rest := []) S (c_X8_note l D cI cJ cZ a_m a_m_board a_m_area a_m_x0 a_m_y0 a_m_x1 a_m_y1 a_m_head a_m_said a_m_low a_m_high a_m_least a_m_price a_m_way a_m_lineFirst a_m_lineLast a_m_left a_m_pile a_m_rest a_m_read a_m_measure a_m_wentBack (M_run M2) (M_signs M2) (M_lastSigns M2) (M_dirt M2) (M_time M2) (M_lineMany M2) (M_notSign M2) (M_notKind M2) (M_measureMany M2) (M_board M2) (M_area M2) (M_y0 M2) (M_y1 M2) (M_said M2) (M_low M2) (M_high M2) (M_least M2) (M_price M2) (M_lineFirst M2) (M_lineLast M2) (M_rest M2) (M_read M2) (M_measure M2) K y311 y312 y313 _ hc1) (cwV 3 S.2.2.2.2 (gl_V gw_950 gw_951 gw_952 gw_58 gw_953) rfl rfl rfl hd_X8_note ⟨Nat.le_of_ble_eq_true rfl, Nat.le_of_ble_eq_true rfl⟩) hK hA hw (52 :: 53 :: 54 :: 56 :: 58 :: 60 :: 61 :: 62 :: 63 :: 64 :: 66 :: 67 :: 70 :: 71 :: 72 :: []) (by decide) rfl rfl (none :: none :: none :: none :: none :: none :: none :: none :: none :: none :: none :: none :: none :: none :: none :: none :: none :: none :: none :: none :: none :: none :: none :: none :: none :: none :: none :: none :: none :: none :: none :: none :: none :: none :: none :: none :: none :: none :: none :: none :: none :: none :: none :: none :: none :: none :: none :: none :: none :: none :: none :: none :: some 0 :: some 1 :: some 2 :: none :: some 3 :: none :: some 4 :: none :: some 5 :: some 6 :: some 7 :: some 8 :: some 9 :: none :: some 10 :: some 11 :: none :: none :: some 12 :: some 13 :: some 14 :: none :: []) rfl (by decide) 52 rfl rfl hl.1 rfl rfl (lv_room (Nat.le_of_ble_eq_true rfl)) ⟨Nat.le_of_ble_eq_true rfl, Nat.le_of_ble_eq_true rfl⟩ dL_law_668 (fun H locs hw => ?_)
          replace hw : zW D A s H locs (wd_L cI cJ cZ a_x a_x_board a_x_board_rows a_x_ruled a_x_ruled_firsts a_x_ruled_firsts_cells a_x_ruled_lasts a_x_ruled_lasts_cells a_x_signs a_x_signs_left a_x_signs_left_rows a_x_signs_queue a_x_signs_queue_cells a_x_signs_facts a_x_signs_facts_cells a_x_signs_places a_x_signs_places_cells a_x_signs_told a_x_signs_told_cells a_x_kinds a_x_kinds_lows a_x_kinds_lows_cells a_x_kinds_highs a_x_kinds_highs_cells a_x_kinds_heights a_x_kinds_heights_cells a_x_kinds_prices a_x_kinds_prices_cells a_x_reading a_x_reading_costs a_x_reading_costs_cells a_x_reading_nexts a_x_reading_nexts_cells a_x_reading_rests a_x_reading_rests_cells a_x_reading_aheads a_x_reading_aheads_cells a_x_reading_coming a_x_reading_coming_cells a_x_reading_meanings a_x_reading_meanings_cells a_x_reading_doubts a_x_reading_doubts_cells a_x_reading_measureOf a_x_reading_measureOf_cells a_x_reading_times a_x_reading_times_cells a_x_ways a_x_ways_signs a_x_ways_signs_cells a_x_ways_gone a_x_ways_gone_cells a_m a_m_board a_m_area a_m_x0 a_m_y0 a_m_x1 a_m_y1 a_m_head a_m_said a_m_low a_m_high a_m_least a_m_price a_m_way a_m_lineFirst a_m_lineLast a_m_left a_m_pile a_m_rest a_m_read a_m_measure a_m_wentBack X298 M315) := by rw [hX1]; exact hw
          clear hX1 hc hc1
          refine lv_pop S.1 S.2.1 dL_law_671 rfl ?_
          refine lv_goto (tgt := 754) S.1 S.2.1 dL_law_672 (by decide) ?_
          refine z_iinc S (i := 3) (k := 3) (v := x3 + 6) hl rfl (by decide) rfl (fun v => (3, .int v) :: [(0, .ref b), (1, .ref a_x), (2, .ref a_m)]) (fun _ => rfl) h dL_law_754 (fun y323 ls hl h => ?_)
          replace hl : lv_has ls 4 [(3, .int y323), (0, .ref b), (1, .ref a_x), (2, .ref a_m)] := hl
          refine lv_goto (tgt := 18) S.1 S.2.1 dL_law_757 (by decide) ?_
          exact ih_18 X298 M315 y323 h _ _ ls hw (lv_sub hl [1, 2, 3, 0] rfl)
        refine z_ife h (fun e33_17 h => ?_) (fun ne33_17 h => ?_)
        · refine lv_tableIn (tgt := 675) S.1 S.2.1 dL_law_33 (by rw [e33_17]; decide) (by rw [e33_17]; decide) (by rw [e33_17]; rfl) (by decide) ?_
          refine lv_aload_n S.1 S.2.1 dL_law_675 rfl (lv_at hl 1 rfl) ?_
          refine lv_aload_n S.1 S.2.1 dL_law_676 rfl (lv_at hl 0 rfl) ?_
          refine lv_iload_n S.1 S.2.1 dL_law_677 rfl (lv_at hl 3 rfl) ?_
          refine lv_iconst (v := 1) S.1 S.2.1 dL_law_678 (by decide) ?_
          refine lv_iadd S.1 S.2.1 dL_law_679 ?_
          obtain ⟨hin, h⟩ := z_ald_e h
          refine va_sld S.1 S.2.1 hX hbl hbA hw.2.2 hin dL_law_680 ?_
          obtain ⟨y324, ey⟩ : ∃ y, y = xs ((x3 + 1)).toNatClampNeg := ⟨_, rfl⟩
          rw [← ey] at h ⊢
          clear ey
          refine lv_aload_n S.1 S.2.1 dL_law_681 rfl (lv_at hl 0 rfl) ?_
          refine lv_iload_n S.1 S.2.1 dL_law_682 rfl (lv_at hl 3 rfl) ?_
          refine lv_iconst (v := 2) S.1 S.2.1 dL_law_683 (by decide) ?_
          refine lv_iadd S.1 S.2.1 dL_law_684 ?_
          obtain ⟨hin, h⟩ := z_ald_e h
          refine va_sld S.1 S.2.1 hX hbl hbA hw.2.2 hin dL_law_685 ?_
          obtain ⟨y325, ey⟩ : ∃ y, y = xs ((x3 + 2)).toNatClampNeg := ⟨_, rfl⟩
          rw [← ey] at h ⊢
          clear ey
          obtain ⟨y326, X327, hc, h⟩ := z_b2_e h
          obtain ⟨t328, hc1, hX1⟩ := X_c_sway_e hc
          refine z_callVi (As := [.int y324, .int y325]) (rest := []) S (c_X7_sway l D cI cJ cZ a_x a_x_board a_x_ruled a_x_signs a_x_kinds a_x_reading a_x_ways a_x_ways_signs a_x_ways_signs_cells a_x_ways_gone (X_leastRun X1) (X_found X1) (X_readingIsOld X1) (X_ways_signs_cells X1) y324 y325 _ hc1) (cwV 2 S.2.2.2.2 (gl_V gw_657 gw_658 gw_659 gw_50 gw_660) rfl rfl rfl hd_X7_sway ⟨Nat.le_of_ble_eq_true rfl, Nat.le_of_ble_eq_true rfl⟩) hK hA hw [0, 47, 48, 49] (by decide) rfl rfl (some 0 :: none :: none :: none :: none :: none :: none :: none :: none :: none :: none :: none :: none :: none :: none :: none :: none :: none :: none :: none :: none :: none :: none :: none :: none :: none :: none :: none :: none :: none :: none :: none :: none :: none :: none :: none :: none :: none :: none :: none :: none :: none :: none :: none :: none :: none :: none :: some 1 :: some 2 :: some 3 :: none :: none :: none :: none :: none :: none :: none :: none :: none :: none :: none :: none :: none :: none :: none :: none :: none :: none :: none :: none :: none :: none :: none :: none :: []) rfl (by decide) 0 rfl rfl hl.1 rfl rfl (lv_room (Nat.le_of_ble_eq_true rfl)) ⟨Nat.le_of_ble_eq_true rfl, Nat.le_of_ble_eq_true rfl⟩ dL_law_686 (fun H locs hw => ?_)
          replace hw : zW D A s H locs (wd_L cI cJ cZ a_x a_x_board a_x_board_rows a_x_ruled a_x_ruled_firsts a_x_ruled_firsts_cells a_x_ruled_lasts a_x_ruled_lasts_cells a_x_signs a_x_signs_left a_x_signs_left_rows a_x_signs_queue a_x_signs_queue_cells a_x_signs_facts a_x_signs_facts_cells a_x_signs_places a_x_signs_places_cells a_x_signs_told a_x_signs_told_cells a_x_kinds a_x_kinds_lows a_x_kinds_lows_cells a_x_kinds_highs a_x_kinds_highs_cells a_x_kinds_heights a_x_kinds_heights_cells a_x_kinds_prices a_x_kinds_prices_cells a_x_reading a_x_reading_costs a_x_reading_costs_cells a_x_reading_nexts a_x_reading_nexts_cells a_x_reading_rests a_x_reading_rests_cells a_x_reading_aheads a_x_reading_aheads_cells a_x_reading_coming a_x_reading_coming_cells a_x_reading_meanings a_x_reading_meanings_cells a_x_reading_doubts a_x_reading_doubts_cells a_x_reading_measureOf a_x_reading_measureOf_cells a_x_reading_times a_x_reading_times_cells a_x_ways a_x_ways_signs a_x_ways_signs_cells a_x_ways_gone a_x_ways_gone_cells a_m a_m_board a_m_area a_m_x0 a_m_y0 a_m_x1 a_m_y1 a_m_head a_m_said a_m_low a_m_high a_m_least a_m_price a_m_way a_m_lineFirst a_m_lineLast a_m_left a_m_pile a_m_rest a_m_read a_m_measure a_m_wentBack X327 M2) := by rw [hX1]; exact hw
          clear hX1 hc hc1
          refine lv_pop S.1 S.2.1 dL_law_689 rfl ?_
          refine lv_aload_n S.1 S.2.1 dL_law_690 rfl (lv_at hl 2 rfl) ?_
          refine lv_aload_n S.1 S.2.1 dL_law_691 rfl (lv_at hl 0 rfl) ?_
          refine lv_iload_n S.1 S.2.1 dL_law_692 rfl (lv_at hl 3 rfl) ?_
          refine lv_iconst (v := 1) S.1 S.2.1 dL_law_693 (by decide) ?_
          refine lv_iadd S.1 S.2.1 dL_law_694 ?_
          obtain ⟨hin, h⟩ := z_ald_e h
          refine va_sld S.1 S.2.1 hX hbl hbA hw.2.2 hin dL_law_695 ?_
          obtain ⟨y329, ey⟩ : ∃ y, y = xs ((x3 + 1)).toNatClampNeg := ⟨_, rfl⟩
          rw [← ey] at h ⊢
          clear ey
          refine lv_aload_n S.1 S.2.1 dL_law_696 rfl (lv_at hl 0 rfl) ?_
          refine lv_iload_n S.1 S.2.1 dL_law_697 rfl (lv_at hl 3 rfl) ?_
          refine lv_iconst (v := 2) S.1 S.2.1 dL_law_698 (by decide) ?_
          refine lv_iadd S.1 S.2.1 dL_law_699 ?_
          obtain ⟨hin, h⟩ := z_ald_e h
          refine va_sld S.1 S.2.1 hX hbl hbA hw.2.2 hin dL_law_700 ?_
          obtain ⟨y330, ey⟩ : ∃ y, y = xs ((x3 + 2)).toNatClampNeg := ⟨_, rfl⟩
          rw [← ey] at h ⊢
          clear ey
          obtain ⟨y331, M332, hc, h⟩ := z_b2_e h
          obtain ⟨t333, hc1, hX1⟩ := M_c_sway_e hc
          refine z_callVi (As := [.int y329, .int y330]) (rest := []) S (c_X8_sway l D cI cJ cZ a_m a_m_board a_m_area a_m_x0 a_m_y0 a_m_x1 a_m_y1 a_m_head a_m_said a_m_low a_m_high a_m_least a_m_price a_m_way a_m_lineFirst a_m_lineLast a_m_left a_m_pile a_m_rest a_m_read a_m_measure a_m_wentBack (M_run M2) (M_signs M2) (M_lastSigns M2) (M_dirt M2) (M_time M2) (M_lineMany M2) (M_notSign M2) (M_notKind M2) (M_measureMany M2) (M_way M2) y329 y330 _ hc1) (cwV 2 S.2.2.2.2 (gl_V gw_958 gw_959 gw_960 gw_58 gw_961) rfl rfl rfl hd_X8_sway ⟨Nat.le_of_ble_eq_true rfl, Nat.le_of_ble_eq_true rfl⟩) hK hA hw [52, 65] (by decide) rfl rfl (none :: none :: none :: none :: none :: none :: none :: none :: none :: none :: none :: none :: none :: none :: none :: none :: none :: none :: none :: none :: none :: none :: none :: none :: none :: none :: none :: none :: none :: none :: none :: none :: none :: none :: none :: none :: none :: none :: none :: none :: none :: none :: none :: none :: none :: none :: none :: none :: none :: none :: none :: none :: some 0 :: none :: none :: none :: none :: none :: none :: none :: none :: none :: none :: none :: none :: some 1 :: none :: none :: none :: none :: none :: none :: none :: none :: []) rfl (by decide) 52 rfl rfl hl.1 rfl rfl (lv_room (Nat.le_of_ble_eq_true rfl)) ⟨Nat.le_of_ble_eq_true rfl, Nat.le_of_ble_eq_true rfl⟩ dL_law_701 (fun H locs hw => ?_)
          replace hw : zW D A s H locs (wd_L cI cJ cZ a_x a_x_board a_x_board_rows a_x_ruled a_x_ruled_firsts a_x_ruled_firsts_cells a_x_ruled_lasts a_x_ruled_lasts_cells a_x_signs a_x_signs_left a_x_signs_left_rows a_x_signs_queue a_x_signs_queue_cells a_x_signs_facts a_x_signs_facts_cells a_x_signs_places a_x_signs_places_cells a_x_signs_told a_x_signs_told_cells a_x_kinds a_x_kinds_lows a_x_kinds_lows_cells a_x_kinds_highs a_x_kinds_highs_cells a_x_kinds_heights a_x_kinds_heights_cells a_x_kinds_prices a_x_kinds_prices_cells a_x_reading a_x_reading_costs a_x_reading_costs_cells a_x_reading_nexts a_x_reading_nexts_cells a_x_reading_rests a_x_reading_rests_cells a_x_reading_aheads a_x_reading_aheads_cells a_x_reading_coming a_x_reading_coming_cells a_x_reading_meanings a_x_reading_meanings_cells a_x_reading_doubts a_x_reading_doubts_cells a_x_reading_measureOf a_x_reading_measureOf_cells a_x_reading_times a_x_reading_times_cells a_x_ways a_x_ways_signs a_x_ways_signs_cells a_x_ways_gone a_x_ways_gone_cells a_m a_m_board a_m_area a_m_x0 a_m_y0 a_m_x1 a_m_y1 a_m_head a_m_said a_m_low a_m_high a_m_least a_m_price a_m_way a_m_lineFirst a_m_lineLast a_m_left a_m_pile a_m_rest a_m_read a_m_measure a_m_wentBack X327 M332) := by rw [hX1]; exact hw
          clear hX1 hc hc1
          refine lv_pop S.1 S.2.1 dL_law_704 rfl ?_
          refine lv_goto (tgt := 754) S.1 S.2.1 dL_law_705 (by decide) ?_
          refine z_iinc S (i := 3) (k := 3) (v := x3 + 6) hl rfl (by decide) rfl (fun v => (3, .int v) :: [(0, .ref b), (1, .ref a_x), (2, .ref a_m)]) (fun _ => rfl) h dL_law_754 (fun y334 ls hl h => ?_)
          replace hl : lv_has ls 4 [(3, .int y334), (0, .ref b), (1, .ref a_x), (2, .ref a_m)] := hl
          refine lv_goto (tgt := 18) S.1 S.2.1 dL_law_757 (by decide) ?_
          exact ih_18 X327 M332 y334 h _ _ ls hw (lv_sub hl [1, 2, 3, 0] rfl)
        refine z_ife h (fun e33_18 h => ?_) (fun ne33_18 h => ?_)
        · refine lv_tableIn (tgt := 708) S.1 S.2.1 dL_law_33 (by rw [e33_18]; decide) (by rw [e33_18]; decide) (by rw [e33_18]; rfl) (by decide) ?_
          refine lv_aload_n S.1 S.2.1 dL_law_708 rfl (lv_at hl 1 rfl) ?_
          refine lv_aload_n S.1 S.2.1 dL_law_709 rfl (lv_at hl 0 rfl) ?_
          refine lv_iload_n S.1 S.2.1 dL_law_710 rfl (lv_at hl 3 rfl) ?_
          refine lv_iconst (v := 1) S.1 S.2.1 dL_law_711 (by decide) ?_
          refine lv_iadd S.1 S.2.1 dL_law_712 ?_
          obtain ⟨hin, h⟩ := z_ald_e h
          refine va_sld S.1 S.2.1 hX hbl hbA hw.2.2 hin dL_law_713 ?_
          obtain ⟨y335, ey⟩ : ∃ y, y = xs ((x3 + 1)).toNatClampNeg := ⟨_, rfl⟩
          rw [← ey] at h ⊢
          clear ey
          obtain ⟨y336, X337, hc, h⟩ := z_b2_e h
          obtain ⟨t338, t339, t340, t341, t342, t343, t344, t345, t346, t347, t348, t349, t350, hc1, hX1⟩ := X_c_played_e hc
          refine z_callVi (As := [.int y335]) (rest := []) S (c_X7_played l D cI cJ cZ a_x a_x_board a_x_ruled a_x_signs a_x_signs_left a_x_signs_queue a_x_signs_facts a_x_signs_facts_cells a_x_signs_places a_x_signs_places_cells a_x_signs_told a_x_signs_told_cells a_x_kinds a_x_kinds_lows a_x_kinds_lows_cells a_x_kinds_highs a_x_kinds_highs_cells a_x_kinds_heights a_x_kinds_heights_cells a_x_kinds_prices a_x_kinds_prices_cells a_x_reading a_x_reading_costs a_x_reading_costs_cells a_x_reading_nexts a_x_reading_nexts_cells a_x_reading_rests a_x_reading_rests_cells a_x_reading_aheads a_x_reading_coming a_x_reading_meanings a_x_reading_meanings_cells a_x_reading_doubts a_x_reading_measureOf a_x_reading_measureOf_cells a_x_reading_times a_x_reading_times_cells a_x_ways a_x_ways_signs a_x_ways_signs_cells a_x_ways_gone a_x_ways_gone_cells (X_leastRun X1) (X_found X1) (X_readingIsOld X1) (X_signs_size X1) (X_signs_sizeBefore X1) (X_signs_facts_cells X1) (X_signs_places_cells X1) (X_signs_told_cells X1) (X_kinds_dirt X1) (X_kinds_time X1) (X_kinds_lows_cells X1) (X_kinds_highs_cells X1) (X_kinds_heights_cells X1) (X_kinds_prices_cells X1) (X_reading_size X1) (X_reading_states X1) (X_reading_total X1) (X_reading_measures X1) (X_reading_doubtsAreOld X1) (X_reading_costs_cells X1) (X_reading_nexts_cells X1) (X_reading_rests_cells X1) (X_reading_meanings_cells X1) (X_reading_measureOf_cells X1) (X_reading_times_cells X1) (X_ways_signs_cells X1) (X_ways_gone_cells X1) K y335 _ hc1) (cwV 1 S.2.2.2.2 (gl_V gw_667 gw_668 gw_669 gw_50 gw_670) rfl rfl rfl hd_X7_played ⟨Nat.le_of_ble_eq_true rfl, Nat.le_of_ble_eq_true rfl⟩) hK hA hw (0 :: 8 :: 13 :: 14 :: 15 :: 16 :: 17 :: 18 :: 19 :: 20 :: 21 :: 22 :: 23 :: 24 :: 25 :: 26 :: 27 :: 28 :: 29 :: 30 :: 31 :: 32 :: 33 :: 34 :: 39 :: 40 :: 43 :: 44 :: 45 :: 46 :: 47 :: 48 :: 49 :: 50 :: 51 :: []) (by decide) rfl rfl (some 0 :: none :: none :: none :: none :: none :: none :: none :: some 1 :: none :: none :: none :: none :: some 2 :: some 3 :: some 4 :: some 5 :: some 6 :: some 7 :: some 8 :: some 9 :: some 10 :: some 11 :: some 12 :: some 13 :: some 14 :: some 15 :: some 16 :: some 17 :: some 18 :: some 19 :: some 20 :: some 21 :: some 22 :: some 23 :: none :: none :: none :: none :: some 24 :: some 25 :: none :: none :: some 26 :: some 27 :: some 28 :: some 29 :: some 30 :: some 31 :: some 32 :: some 33 :: some 34 :: none :: none :: none :: none :: none :: none :: none :: none :: none :: none :: none :: none :: none :: none :: none :: none :: none :: none :: none :: none :: none :: none :: []) rfl (by decide) 0 rfl rfl hl.1 rfl rfl (lv_room (Nat.le_of_ble_eq_true rfl)) ⟨Nat.le_of_ble_eq_true rfl, Nat.le_of_ble_eq_true rfl⟩ dL_law_714 (fun H locs hw => ?_)
          replace hw : zW D A s H locs (wd_L cI cJ cZ a_x a_x_board a_x_board_rows a_x_ruled a_x_ruled_firsts a_x_ruled_firsts_cells a_x_ruled_lasts a_x_ruled_lasts_cells a_x_signs a_x_signs_left a_x_signs_left_rows a_x_signs_queue a_x_signs_queue_cells a_x_signs_facts a_x_signs_facts_cells a_x_signs_places a_x_signs_places_cells a_x_signs_told a_x_signs_told_cells a_x_kinds a_x_kinds_lows a_x_kinds_lows_cells a_x_kinds_highs a_x_kinds_highs_cells a_x_kinds_heights a_x_kinds_heights_cells a_x_kinds_prices a_x_kinds_prices_cells a_x_reading a_x_reading_costs a_x_reading_costs_cells a_x_reading_nexts a_x_reading_nexts_cells a_x_reading_rests a_x_reading_rests_cells a_x_reading_aheads a_x_reading_aheads_cells a_x_reading_coming a_x_reading_coming_cells a_x_reading_meanings a_x_reading_meanings_cells a_x_reading_doubts a_x_reading_doubts_cells a_x_reading_measureOf a_x_reading_measureOf_cells a_x_reading_times a_x_reading_times_cells a_x_ways a_x_ways_signs a_x_ways_signs_cells a_x_ways_gone a_x_ways_gone_cells a_m a_m_board a_m_area a_m_x0 a_m_y0 a_m_x1 a_m_y1 a_m_head a_m_said a_m_low a_m_high a_m_least a_m_price a_m_way a_m_lineFirst a_m_lineLast a_m_left a_m_pile a_m_rest a_m_read a_m_measure a_m_wentBack X337 M2) := by rw [hX1]; exact hw
          clear hX1 hc hc1
          refine lv_pop S.1 S.2.1 dL_law_717 rfl ?_
          refine lv_aload_n S.1 S.2.1 dL_law_718 rfl (lv_at hl 2 rfl) ?_
          refine lv_aload_n S.1 S.2.1 dL_law_719 rfl (lv_at hl 0 rfl) ?_
          refine lv_iload_n S.1 S.2.1 dL_law_720 rfl (lv_at hl 3 rfl) ?_
          refine lv_iconst (v := 1) S.1 S.2.1 dL_law_721 (by decide) ?_
          refine lv_iadd S.1 S.2.1 dL_law_722 ?_
          obtain ⟨hin, h⟩ := z_ald_e h
          refine va_sld S.1 S.2.1 hX hbl hbA hw.2.2 hin dL_law_723 ?_
          obtain ⟨y351, ey⟩ : ∃ y, y = xs ((x3 + 1)).toNatClampNeg := ⟨_, rfl⟩
          rw [← ey] at h ⊢
          clear ey
          obtain ⟨y352, M353, hc, h⟩ := z_b2_e h
          obtain ⟨t354, t355, t356, t357, t358, hc1, hX1⟩ := M_c_played_e hc
          refine z_callVi (As := [.int y351]) (rest := []) S (c_X8_played l D cI cJ cZ a_m a_m_board a_m_area a_m_x0 a_m_y0 a_m_x1 a_m_y1 a_m_head a_m_said a_m_low a_m_high a_m_least a_m_price a_m_way a_m_lineFirst a_m_lineLast a_m_left a_m_pile a_m_rest a_m_read a_m_measure a_m_wentBack (M_run M2) (M_signs M2) (M_lastSigns M2) (M_dirt M2) (M_time M2) (M_lineMany M2) (M_notSign M2) (M_notKind M2) (M_measureMany M2) (M_area M2) (M_y0 M2) (M_y1 M2) (M_said M2) (M_low M2) (M_high M2) (M_least M2) (M_price M2) (M_way M2) (M_rest M2) (M_read M2) (M_measure M2) (M_wentBack M2) K y351 _ hc1) (cwV 1 S.2.2.2.2 (gl_V gw_962 gw_963 gw_964 gw_58 gw_965) rfl rfl rfl hd_X8_played ⟨Nat.le_of_ble_eq_true rfl, Nat.le_of_ble_eq_true rfl⟩) hK hA hw (52 :: 54 :: 56 :: 58 :: 60 :: 61 :: 62 :: 63 :: 64 :: 65 :: 70 :: 71 :: 72 :: 73 :: []) (by decide) rfl rfl (none :: none :: none :: none :: none :: none :: none :: none :: none :: none :: none :: none :: none :: none :: none :: none :: none :: none :: none :: none :: none :: none :: none :: none :: none :: none :: none :: none :: none :: none :: none :: none :: none :: none :: none :: none :: none :: none :: none :: none :: none :: none :: none :: none :: none :: none :: none :: none :: none :: none :: none :: none :: some 0 :: none :: some 1 :: none :: some 2 :: none :: some 3 :: none :: some 4 :: some 5 :: some 6 :: some 7 :: some 8 :: some 9 :: none :: none :: none :: none :: some 10 :: some 11 :: some 12 :: some 13 :: []) rfl (by decide) 52 rfl rfl hl.1 rfl rfl (lv_room (Nat.le_of_ble_eq_true rfl)) ⟨Nat.le_of_ble_eq_true rfl, Nat.le_of_ble_eq_true rfl⟩ dL_law_724 (fun H locs hw => ?_)
          replace hw : zW D A s H locs (wd_L cI cJ cZ a_x a_x_board a_x_board_rows a_x_ruled a_x_ruled_firsts a_x_ruled_firsts_cells a_x_ruled_lasts a_x_ruled_lasts_cells a_x_signs a_x_signs_left a_x_signs_left_rows a_x_signs_queue a_x_signs_queue_cells a_x_signs_facts a_x_signs_facts_cells a_x_signs_places a_x_signs_places_cells a_x_signs_told a_x_signs_told_cells a_x_kinds a_x_kinds_lows a_x_kinds_lows_cells a_x_kinds_highs a_x_kinds_highs_cells a_x_kinds_heights a_x_kinds_heights_cells a_x_kinds_prices a_x_kinds_prices_cells a_x_reading a_x_reading_costs a_x_reading_costs_cells a_x_reading_nexts a_x_reading_nexts_cells a_x_reading_rests a_x_reading_rests_cells a_x_reading_aheads a_x_reading_aheads_cells a_x_reading_coming a_x_reading_coming_cells a_x_reading_meanings a_x_reading_meanings_cells a_x_reading_doubts a_x_reading_doubts_cells a_x_reading_measureOf a_x_reading_measureOf_cells a_x_reading_times a_x_reading_times_cells a_x_ways a_x_ways_signs a_x_ways_signs_cells a_x_ways_gone a_x_ways_gone_cells a_m a_m_board a_m_area a_m_x0 a_m_y0 a_m_x1 a_m_y1 a_m_head a_m_said a_m_low a_m_high a_m_least a_m_price a_m_way a_m_lineFirst a_m_lineLast a_m_left a_m_pile a_m_rest a_m_read a_m_measure a_m_wentBack X337 M353) := by rw [hX1]; exact hw
          clear hX1 hc hc1
          refine lv_pop S.1 S.2.1 dL_law_727 rfl ?_
          refine lv_goto (tgt := 754) S.1 S.2.1 dL_law_728 (by decide) ?_
          refine z_iinc S (i := 3) (k := 3) (v := x3 + 6) hl rfl (by decide) rfl (fun v => (3, .int v) :: [(0, .ref b), (1, .ref a_x), (2, .ref a_m)]) (fun _ => rfl) h dL_law_754 (fun y359 ls hl h => ?_)
          replace hl : lv_has ls 4 [(3, .int y359), (0, .ref b), (1, .ref a_x), (2, .ref a_m)] := hl
          refine lv_goto (tgt := 18) S.1 S.2.1 dL_law_757 (by decide) ?_
          exact ih_18 X337 M353 y359 h _ _ ls hw (lv_sub hl [1, 2, 3, 0] rfl)
        refine z_ife h (fun e33_19 h => ?_) (fun ne33_19 h => ?_)
        · refine lv_tableIn (tgt := 731) S.1 S.2.1 dL_law_33 (by rw [e33_19]; decide) (by rw [e33_19]; decide) (by rw [e33_19]; rfl) (by decide) ?_
          refine lv_aload_n S.1 S.2.1 dL_law_731 rfl (lv_at hl 1 rfl) ?_
          refine lv_aload_n S.1 S.2.1 dL_law_732 rfl (lv_at hl 0 rfl) ?_
          refine lv_iload_n S.1 S.2.1 dL_law_733 rfl (lv_at hl 3 rfl) ?_
          refine lv_iconst (v := 1) S.1 S.2.1 dL_law_734 (by decide) ?_
          refine lv_iadd S.1 S.2.1 dL_law_735 ?_
          obtain ⟨hin, h⟩ := z_ald_e h
          refine va_sld S.1 S.2.1 hX hbl hbA hw.2.2 hin dL_law_736 ?_
          obtain ⟨y360, ey⟩ : ∃ y, y = xs ((x3 + 1)).toNatClampNeg := ⟨_, rfl⟩
          rw [← ey] at h ⊢
          clear ey
          obtain ⟨y361, X362, hc, h⟩ := z_b2_e h
          obtain ⟨t363, t364, t365, t366, hc1, hX1⟩ := X_c_count_e hc
          refine z_callVi (As := [.int y360]) (rest := []) S (c_X7_count l D cI cJ cZ a_x a_x_board a_x_board_rows a_x_ruled a_x_ruled_firsts a_x_ruled_firsts_cells a_x_ruled_lasts a_x_ruled_lasts_cells a_x_signs a_x_signs_left a_x_signs_queue a_x_signs_facts a_x_signs_places a_x_signs_told a_x_signs_told_cells a_x_kinds a_x_reading a_x_ways (X_leastRun X1) (X_found X1) (X_readingIsOld X1) (X_board_rows X1) (X_ruled_size X1) (X_ruled_staffStart X1) (X_ruled_firsts_cells X1) (X_ruled_lasts_cells X1) (X_signs_size X1) (X_signs_sizeBefore X1) (X_signs_told_cells X1) K y360 _ hc1) (cwV 1 S.2.2.2.2 (gl_V gw_688 gw_689 gw_690 gw_50 gw_691) rfl rfl rfl hd_X7_count ⟨Nat.le_of_ble_eq_true rfl, Nat.le_of_ble_eq_true rfl⟩) hK hA hw [0, 1, 2, 3, 4, 5, 6, 7, 8, 17, 18] (by decide) rfl rfl (some 0 :: some 1 :: some 2 :: some 3 :: some 4 :: some 5 :: some 6 :: some 7 :: some 8 :: none :: none :: none :: none :: none :: none :: none :: none :: some 9 :: some 10 :: none :: none :: none :: none :: none :: none :: none :: none :: none :: none :: none :: none :: none :: none :: none :: none :: none :: none :: none :: none :: none :: none :: none :: none :: none :: none :: none :: none :: none :: none :: none :: none :: none :: none :: none :: none :: none :: none :: none :: none :: none :: none :: none :: none :: none :: none :: none :: none :: none :: none :: none :: none :: none :: none :: none :: []) rfl (by decide) 0 rfl rfl hl.1 rfl rfl (lv_room (Nat.le_of_ble_eq_true rfl)) ⟨Nat.le_of_ble_eq_true rfl, Nat.le_of_ble_eq_true rfl⟩ dL_law_737 (fun H locs hw => ?_)
          replace hw : zW D A s H locs (wd_L cI cJ cZ a_x a_x_board a_x_board_rows a_x_ruled a_x_ruled_firsts a_x_ruled_firsts_cells a_x_ruled_lasts a_x_ruled_lasts_cells a_x_signs a_x_signs_left a_x_signs_left_rows a_x_signs_queue a_x_signs_queue_cells a_x_signs_facts a_x_signs_facts_cells a_x_signs_places a_x_signs_places_cells a_x_signs_told a_x_signs_told_cells a_x_kinds a_x_kinds_lows a_x_kinds_lows_cells a_x_kinds_highs a_x_kinds_highs_cells a_x_kinds_heights a_x_kinds_heights_cells a_x_kinds_prices a_x_kinds_prices_cells a_x_reading a_x_reading_costs a_x_reading_costs_cells a_x_reading_nexts a_x_reading_nexts_cells a_x_reading_rests a_x_reading_rests_cells a_x_reading_aheads a_x_reading_aheads_cells a_x_reading_coming a_x_reading_coming_cells a_x_reading_meanings a_x_reading_meanings_cells a_x_reading_doubts a_x_reading_doubts_cells a_x_reading_measureOf a_x_reading_measureOf_cells a_x_reading_times a_x_reading_times_cells a_x_ways a_x_ways_signs a_x_ways_signs_cells a_x_ways_gone a_x_ways_gone_cells a_m a_m_board a_m_area a_m_x0 a_m_y0 a_m_x1 a_m_y1 a_m_head a_m_said a_m_low a_m_high a_m_least a_m_price a_m_way a_m_lineFirst a_m_lineLast a_m_left a_m_pile a_m_rest a_m_read a_m_measure a_m_wentBack X362 M2) := by rw [hX1]; exact hw
          clear hX1 hc hc1
          refine lv_pop S.1 S.2.1 dL_law_740 rfl ?_
          refine lv_aload_n S.1 S.2.1 dL_law_741 rfl (lv_at hl 2 rfl) ?_
          refine lv_aload_n S.1 S.2.1 dL_law_742 rfl (lv_at hl 0 rfl) ?_
          refine lv_iload_n S.1 S.2.1 dL_law_743 rfl (lv_at hl 3 rfl) ?_
          refine lv_iconst (v := 1) S.1 S.2.1 dL_law_744 (by decide) ?_
          refine lv_iadd S.1 S.2.1 dL_law_745 ?_
          obtain ⟨hin, h⟩ := z_ald_e h
          refine va_sld S.1 S.2.1 hX hbl hbA hw.2.2 hin dL_law_746 ?_
          obtain ⟨y367, ey⟩ : ∃ y, y = xs ((x3 + 1)).toNatClampNeg := ⟨_, rfl⟩
          rw [← ey] at h ⊢
          clear ey
          obtain ⟨y368, M369, hc, h⟩ := z_b2_e h
          obtain ⟨t370, t371, t372, hc1, hX1⟩ := M_c_count_e hc
          refine z_callVi (As := [.int y367]) (rest := []) S (c_X8_count l D cI cJ cZ a_m a_m_board a_m_area a_m_x0 a_m_y0 a_m_x1 a_m_y1 a_m_head a_m_said a_m_low a_m_high a_m_least a_m_price a_m_way a_m_lineFirst a_m_lineLast a_m_left a_m_pile a_m_rest a_m_read a_m_measure a_m_wentBack (M_run M2) (M_signs M2) (M_lastSigns M2) (M_dirt M2) (M_time M2) (M_lineMany M2) (M_notSign M2) (M_notKind M2) (M_measureMany M2) (M_board M2) (M_said M2) (M_lineFirst M2) (M_lineLast M2) K y367 _ hc1) (cwV 1 S.2.2.2.2 (gl_V gw_970 gw_971 gw_972 gw_58 gw_973) rfl rfl rfl hd_X8_count ⟨Nat.le_of_ble_eq_true rfl, Nat.le_of_ble_eq_true rfl⟩) hK hA hw [52, 53, 60, 66, 67] (by decide) rfl rfl (none :: none :: none :: none :: none :: none :: none :: none :: none :: none :: none :: none :: none :: none :: none :: none :: none :: none :: none :: none :: none :: none :: none :: none :: none :: none :: none :: none :: none :: none :: none :: none :: none :: none :: none :: none :: none :: none :: none :: none :: none :: none :: none :: none :: none :: none :: none :: none :: none :: none :: none :: none :: some 0 :: some 1 :: none :: none :: none :: none :: none :: none :: some 2 :: none :: none :: none :: none :: none :: some 3 :: some 4 :: none :: none :: none :: none :: none :: none :: []) rfl (by decide) 52 rfl rfl hl.1 rfl rfl (lv_room (Nat.le_of_ble_eq_true rfl)) ⟨Nat.le_of_ble_eq_true rfl, Nat.le_of_ble_eq_true rfl⟩ dL_law_747 (fun H locs hw => ?_)
          replace hw : zW D A s H locs (wd_L cI cJ cZ a_x a_x_board a_x_board_rows a_x_ruled a_x_ruled_firsts a_x_ruled_firsts_cells a_x_ruled_lasts a_x_ruled_lasts_cells a_x_signs a_x_signs_left a_x_signs_left_rows a_x_signs_queue a_x_signs_queue_cells a_x_signs_facts a_x_signs_facts_cells a_x_signs_places a_x_signs_places_cells a_x_signs_told a_x_signs_told_cells a_x_kinds a_x_kinds_lows a_x_kinds_lows_cells a_x_kinds_highs a_x_kinds_highs_cells a_x_kinds_heights a_x_kinds_heights_cells a_x_kinds_prices a_x_kinds_prices_cells a_x_reading a_x_reading_costs a_x_reading_costs_cells a_x_reading_nexts a_x_reading_nexts_cells a_x_reading_rests a_x_reading_rests_cells a_x_reading_aheads a_x_reading_aheads_cells a_x_reading_coming a_x_reading_coming_cells a_x_reading_meanings a_x_reading_meanings_cells a_x_reading_doubts a_x_reading_doubts_cells a_x_reading_measureOf a_x_reading_measureOf_cells a_x_reading_times a_x_reading_times_cells a_x_ways a_x_ways_signs a_x_ways_signs_cells a_x_ways_gone a_x_ways_gone_cells a_m a_m_board a_m_area a_m_x0 a_m_y0 a_m_x1 a_m_y1 a_m_head a_m_said a_m_low a_m_high a_m_least a_m_price a_m_way a_m_lineFirst a_m_lineLast a_m_left a_m_pile a_m_rest a_m_read a_m_measure a_m_wentBack X362 M369) := by rw [hX1]; exact hw
          clear hX1 hc hc1
          refine lv_pop S.1 S.2.1 dL_law_750 rfl ?_
          refine lv_goto (tgt := 754) S.1 S.2.1 dL_law_751 (by decide) ?_
          refine z_iinc S (i := 3) (k := 3) (v := x3 + 6) hl rfl (by decide) rfl (fun v => (3, .int v) :: [(0, .ref b), (1, .ref a_x), (2, .ref a_m)]) (fun _ => rfl) h dL_law_754 (fun y373 ls hl h => ?_)
          replace hl : lv_has ls 4 [(3, .int y373), (0, .ref b), (1, .ref a_x), (2, .ref a_m)] := hl
          refine lv_goto (tgt := 18) S.1 S.2.1 dL_law_757 (by decide) ?_
          exact ih_18 X362 M369 y373 h _ _ ls hw (lv_sub hl [1, 2, 3, 0] rfl)
        have ho_33 : ((y4 &&& 31) : Int32).toInt < 0 ∨ 19 < ((y4 &&& 31) : Int32).toInt := by
          have q_ne33_0 := lv_neT ne33_0 (a := 0) (by decide)
          have q_ne33_1 := lv_neT ne33_1 (a := 1) (by decide)
          have q_ne33_2 := lv_neT ne33_2 (a := 2) (by decide)
          have q_ne33_3 := lv_neT ne33_3 (a := 3) (by decide)
          have q_ne33_4 := lv_neT ne33_4 (a := 4) (by decide)
          have q_ne33_5 := lv_neT ne33_5 (a := 5) (by decide)
          have q_ne33_6 := lv_neT ne33_6 (a := 6) (by decide)
          have q_ne33_7 := lv_neT ne33_7 (a := 7) (by decide)
          have q_ne33_8 := lv_neT ne33_8 (a := 8) (by decide)
          have q_ne33_9 := lv_neT ne33_9 (a := 9) (by decide)
          have q_ne33_10 := lv_neT ne33_10 (a := 10) (by decide)
          have q_ne33_11 := lv_neT ne33_11 (a := 11) (by decide)
          have q_ne33_12 := lv_neT ne33_12 (a := 12) (by decide)
          have q_ne33_13 := lv_neT ne33_13 (a := 13) (by decide)
          have q_ne33_14 := lv_neT ne33_14 (a := 14) (by decide)
          have q_ne33_15 := lv_neT ne33_15 (a := 15) (by decide)
          have q_ne33_16 := lv_neT ne33_16 (a := 16) (by decide)
          have q_ne33_17 := lv_neT ne33_17 (a := 17) (by decide)
          have q_ne33_18 := lv_neT ne33_18 (a := 18) (by decide)
          have q_ne33_19 := lv_neT ne33_19 (a := 19) (by decide)
          omega
        refine lv_tableOut (tgt := 754) S.1 S.2.1 dL_law_33 ho_33 (by decide) ?_
        refine z_iinc S (i := 3) (k := 3) (v := x3 + 6) hl rfl (by decide) rfl (fun v => (3, .int v) :: [(0, .ref b), (1, .ref a_x), (2, .ref a_m)]) (fun _ => rfl) h dL_law_754 (fun y374 ls hl h => ?_)
        replace hl : lv_has ls 4 [(3, .int y374), (0, .ref b), (1, .ref a_x), (2, .ref a_m)] := hl
        refine lv_goto (tgt := 18) S.1 S.2.1 dL_law_757 (by decide) ?_
        exact ih_18 X1 M2 y374 h _ _ ls hw (lv_sub hl [1, 2, 3, 0] rfl)
  exact L_18 K X M 0 h _ _ ls hw (lv_sub hl [3, 2, 1, 0] rfl)
theorem gw_62 : Cond.instantiable RX7 9 ∈ GW := GW_of 62 (by decide +kernel) (by decide +kernel)
theorem gw_702 : Cond.instantiable RX8 30 ∈ GW := GW_of 702 (by decide +kernel) (by decide +kernel)
theorem gw_61 : Cond.classLink RL 7 RX7 ∈ GW := GW_of 61 (by decide +kernel) (by decide +kernel)
theorem gw_65 : Cond.code yX7_init cX7_init 1 none ∈ GW := GW_of 65 (by decide +kernel) (by decide +kernel)
theorem gw_63 : Cond.methodLink RL 9 yX7_init ∈ GW := GW_of 63 (by decide +kernel) (by decide +kernel)
theorem gw_64 : Cond.instanceMethod yX7_init ∈ GW := GW_of 64 (by decide +kernel) (by decide +kernel)
theorem gw_701 : Cond.classLink RL 10 RX8 ∈ GW := GW_of 701 (by decide +kernel) (by decide +kernel)
theorem gw_705 : Cond.code yX8_init cX8_init 2 none ∈ GW := GW_of 705 (by decide +kernel) (by decide +kernel)
theorem gw_703 : Cond.methodLink RL 12 yX8_init ∈ GW := GW_of 703 (by decide +kernel) (by decide +kernel)
theorem gw_704 : Cond.instanceMethod yX8_init ∈ GW := GW_of 704 (by decide +kernel) (by decide +kernel)
set_option maxHeartbeats 8000000 in
set_option maxRecDepth 100000 in
theorem whole_of {p : Program} {e : Env} {s : State} {m : MethodId} {below : List Frame} {meth : Method} {c : Code} (l : Launch) {b L : Nat} {xs : Nat → Int32} (C0 : lw_At p s m meth c b L xs) (K : Nat) (h : p_L K L xs = some 1) : W p l e room_1 s m #[Value.ref b] below meth c s.heap [] 0 0 (lw_Z below #[Value.ref b] s) (entryFrame m ([Value.ref b] : List Value).toArray 4) := by
  obtain ⟨hx, hb, hr, hml, hown, hts, hX, hbl, hlocks, hgv⟩ := id C0
  obtain ⟨c0, i0, hKn0⟩ := u_known (C := RX0) (T := TX0) (N := 6) (n := 6) hts (fun w h => GW_in (gu_X0 w h)) (hts _ (GW_in gw_147))
  obtain ⟨c1, i1, hKn1⟩ := u_known (C := RX1) (T := TX1) (N := 4) (n := 4) hts (fun w h => GW_in (gu_X1 w h)) (hts _ (GW_in gw_81))
  obtain ⟨c2, i2, hKn2⟩ := u_known (C := RX2) (T := TX2) (N := 14) (n := 14) hts (fun w h => GW_in (gu_X2 w h)) (hts _ (GW_in gw_174))
  obtain ⟨c3, i3, hKn3⟩ := u_known (C := RX3) (T := TX3) (N := 1) (n := 1) hts (fun w h => GW_in (gu_X3 w h)) (hts _ (GW_in gw_87))
  obtain ⟨c4, i4, hKn4⟩ := u_known (C := RX4) (T := TX4) (N := 1) (n := 1) hts (fun w h => GW_in (gu_X4 w h)) (hts _ (GW_in gw_70))
  obtain ⟨c5, i5, hKn5⟩ := u_known (C := RX5) (T := TX5) (N := 7) (n := 7) hts (fun w h => GW_in (gu_X5 w h)) (hts _ (GW_in gw_115))
  obtain ⟨c6, i6, hKn6⟩ := u_known (C := RX6) (T := TX6) (N := 2) (n := 2) hts (fun w h => GW_in (gu_X6 w h)) (hts _ (GW_in gw_226))
  obtain ⟨c7, i7, hKn7⟩ := u_known (C := RX7) (T := TX7) (N := 9) (n := 9) hts (fun w h => GW_in (gu_X7 w h)) (hts _ (GW_in gw_62))
  obtain ⟨c8, i8, hKn8⟩ := u_known (C := RX8) (T := TX8) (N := 30) (n := 30) hts (fun w h => GW_in (gu_X8 w h)) (hts _ (GW_in gw_702))
  obtain ⟨dC, dI, hKc⟩ : ∃ (dC : Nat → ClassId) (dI : Nat → Nat → Nat), ∀ (k : Nat) (q : vw_C), vwCl[k]? = some q → u_Kn s q.1 q.2.1 q.2.2 (dC k) (dI k) := by
    refine ⟨fun k => if k = 0 then c0 else if k = 1 then c1 else if k = 2 then c2 else if k = 3 then c3 else if k = 4 then c4 else if k = 5 then c5 else if k = 6 then c6 else if k = 7 then c7 else c8, fun k => if k = 0 then i0 else if k = 1 then i1 else if k = 2 then i2 else if k = 3 then i3 else if k = 4 then i4 else if k = 5 then i5 else if k = 6 then i6 else if k = 7 then i7 else i8, ?_⟩
    intro k q hq
    match k, hq with
    | 0, hq => cases hq; exact hKn0
    | 1, hq => cases hq; exact hKn1
    | 2, hq => cases hq; exact hKn2
    | 3, hq => cases hq; exact hKn3
    | 4, hq => cases hq; exact hKn4
    | 5, hq => cases hq; exact hKn5
    | 6, hq => cases hq; exact hKn6
    | 7, hq => cases hq; exact hKn7
    | 8, hq => cases hq; exact hKn8
    | k + 9, hq => simp [vwCl] at hq
  obtain ⟨cI, kAI, coI, fI, hkI, hdI⟩ := Cond.arrayClass_spec (hts _ (GW_in gw_100))
  obtain ⟨cJ, kAJ, coJ, fJ, hkJ, hdJ⟩ := Cond.arrayClass_spec (hts _ (GW_in gw_79))
  obtain ⟨cZ, kAZ, coZ, fZ, hkZ, hdZ⟩ := Cond.arrayClass_spec (hts _ (GW_in gw_802))
  have hK : va_K (dC, dI) vwCl (zT cI cJ cZ) s := by
    refine ⟨hKc, fun k q hq => ?_⟩
    match k, hq with
    | 0, hq => cases hq; exact ⟨fun n z => ⟨fun k h => (by cases h), kAI, hkI, coI, hdI⟩, fI⟩
    | 1, hq => cases hq; exact ⟨fun n z => ⟨fun k h => (by cases h), kAJ, hkJ, coJ, hdJ⟩, fJ⟩
    | 2, hq => cases hq; exact ⟨fun n z => ⟨fun k h => (by cases h), kAZ, hkZ, coZ, hdZ⟩, fZ⟩
    | k + 3, hq => simp [zT] at hq
  have S : CallFix p m c code 4 s #[Value.ref b] lw_tbl RL := ⟨hx, hb, hml, hown, hts⟩
  have hw : zW (dC, dI) (fun q : Nat => s.heap.size ≤ q) s s.heap [] [] := ⟨fun k q h => by simp at h, ⟨fun i j p q h => by simp at h, fun k q h => by simp at h⟩, va_S.rf⟩
  have hl := lv_entry ([.ref b]) (n := 4) (Nat.le_of_ble_eq_true rfl)
  rw [lg_entry_eq]
  generalize (lg_sl ([.ref b]) ++ List.replicate (4 - (lg_sl ([.ref b])).length) Slot.unset).toArray = ls at hl ⊢
  replace hl : lv_has ls 4 [(0, .ref b)] := hl
  unfold p_L at h
  obtain ⟨g5, e_g5, h⟩ := z_b1_e h
  obtain ⟨g6, e_g6, h⟩ := z_b1_e h
  obtain ⟨g9, e_g9, h⟩ := z_b1_e h
  obtain ⟨g10, e_g10, h⟩ := z_b1_e h
  obtain ⟨g11, e_g11, h⟩ := z_b1_e h
  obtain ⟨g12, e_g12, h⟩ := z_b1_e h
  obtain ⟨g15, e_g15, h⟩ := z_b1_e h
  obtain ⟨g16, e_g16, h⟩ := z_b1_e h
  obtain ⟨g17, e_g17, h⟩ := z_b1_e h
  obtain ⟨g18, e_g18, h⟩ := z_b1_e h
  obtain ⟨g21, e_g21, h⟩ := z_b1_e h
  obtain ⟨g22, e_g22, h⟩ := z_b1_e h
  obtain ⟨g23, e_g23, h⟩ := z_b1_e h
  obtain ⟨g24, e_g24, h⟩ := z_b1_e h
  obtain ⟨g25, e_g25, h⟩ := z_b1_e h
  obtain ⟨g26, e_g26, h⟩ := z_b1_e h
  obtain ⟨g27, e_g27, h⟩ := z_b1_e h
  obtain ⟨g28, e_g28, h⟩ := z_b1_e h
  obtain ⟨g29, e_g29, h⟩ := z_b1_e h
  obtain ⟨g32, e_g32, h⟩ := z_b1_e h
  obtain ⟨g33, e_g33, h⟩ := z_b1_e h
  obtain ⟨o_said, o_low, o_high, o_least, o_price, hm, h⟩ := z_b5_e h
  refine z_new S (C := RX7) (T := TX7) (N := 9) (ci := 7) (fs := [.null, .null, .null, .null, .null, .null, .int 0, .int 0, .int 0]) (k := 1) (n := 9) (fun w h => GW_in (gu_X7 w h)) tyX7 tyX7_ok (GW_in gw_61) (GW_in gw_62) (GW_in gw_50) hK (fun _ h => h) hw rfl df_X7 rfl rfl (Nat.le_of_ble_eq_true rfl) (Nat.le_of_ble_eq_true rfl) dL_law_0 (fun a_x H hw => ?_)
  refine lv_dup S.1 S.2.1 dL_law_3 rfl ?_
  have hn0 : va_Nw (Cond.methodLinkNest RX7 11 yX4_init "ScoreReader") s := va_Nw.of rfl (hts (Cond.methodLinkNest RX7 11 yX4_init "ScoreReader") (List.mem_of_getElem? (i := 71) (by decide +kernel)))
  have hn1 : va_Nw (Cond.methodLinkNest RX7 18 yX1_init "ScoreReader") s := va_Nw.of rfl (hts (Cond.methodLinkNest RX7 18 yX1_init "ScoreReader") (List.mem_of_getElem? (i := 82) (by decide +kernel)))
  have hn2 : va_Nw (Cond.methodLinkNest RX7 25 yX5_init "ScoreReader") s := va_Nw.of rfl (hts (Cond.methodLinkNest RX7 25 yX5_init "ScoreReader") (List.mem_of_getElem? (i := 116) (by decide +kernel)))
  have hn3 : va_Nw (Cond.methodLinkNest RX5 11 yX4_init "ScoreReader") s := va_Nw.of rfl (hts (Cond.methodLinkNest RX5 11 yX4_init "ScoreReader") (List.mem_of_getElem? (i := 121) (by decide +kernel)))
  have hn4 : va_Nw (Cond.methodLinkNest RX7 32 yX0_init "ScoreReader") s := va_Nw.of rfl (hts (Cond.methodLinkNest RX7 32 yX0_init "ScoreReader") (List.mem_of_getElem? (i := 148) (by decide +kernel)))
  have hn5 : va_Nw (Cond.methodLinkNest RX7 39 yX2_init "ScoreReader") s := va_Nw.of rfl (hts (Cond.methodLinkNest RX7 39 yX2_init "ScoreReader") (List.mem_of_getElem? (i := 175) (by decide +kernel)))
  have hn6 : va_Nw (Cond.methodLinkNest RX7 46 yX6_init "ScoreReader") s := va_Nw.of rfl (hts (Cond.methodLinkNest RX7 46 yX6_init "ScoreReader") (List.mem_of_getElem? (i := 227) (by decide +kernel)))
  refine z_callI (X := (fun U => va_Nw (Cond.methodLinkNest RX7 11 yX4_init "ScoreReader") U ∧ va_Nw (Cond.methodLinkNest RX7 18 yX1_init "ScoreReader") U ∧ va_Nw (Cond.methodLinkNest RX7 25 yX5_init "ScoreReader") U ∧ va_Nw (Cond.methodLinkNest RX5 11 yX4_init "ScoreReader") U ∧ va_Nw (Cond.methodLinkNest RX7 32 yX0_init "ScoreReader") U ∧ va_Nw (Cond.methodLinkNest RX7 39 yX2_init "ScoreReader") U ∧ va_Nw (Cond.methodLinkNest RX7 46 yX6_init "ScoreReader") U)) (As := []) (ws0 := []) (rest := [.ref a_x]) S (c_X7_init l (dC, dI) cI cJ cZ a_x K g5 g6 g9 g10 g11 g12 g15 g16 g17 g18 g21 g22 g23 g24 g25 g26 g27 g28 g29 g32 g33 e_g5 e_g6 e_g9 e_g10 e_g11 e_g12 e_g15 e_g16 e_g17 e_g18 e_g21 e_g22 e_g23 e_g24 e_g25 e_g26 e_g27 e_g28 e_g29 e_g32 e_g33) (cwI 0 S.2.2.2.2 (gl_C gw_65) rfl rfl rfl (hts _ (GW_in gw_50)) (hts _ (GW_in gw_63)) (hts _ (GW_in gw_64)) rfl hdI_X7_init ⟨Nat.le_of_ble_eq_true rfl, Nat.le_of_ble_eq_true rfl⟩) (fun a U g mk h => ⟨va_Nw.same rfl rfl h.1, va_Nw.same rfl rfl h.2.1, va_Nw.same rfl rfl h.2.2.1, va_Nw.same rfl rfl h.2.2.2.1, va_Nw.same rfl rfl h.2.2.2.2.1, va_Nw.same rfl rfl h.2.2.2.2.2.1, va_Nw.same rfl rfl h.2.2.2.2.2.2⟩) (fun U hW => ⟨va_Nw.warmM hW hn0, va_Nw.warmM hW hn1, va_Nw.warmM hW hn2, va_Nw.warmM hW hn3, va_Nw.warmM hW hn4, va_Nw.warmM hW hn5, va_Nw.warmM hW hn6⟩) hK (fun _ h => h) hw hl.1 rfl rfl (lv_room (Nat.le_of_ble_eq_true rfl)) (k := 52) (j := 6727) rfl rfl (Nat.le_of_ble_eq_true rfl) (Nat.le_of_ble_eq_true rfl) dL_law_4 (fun u H locs hw => ?_)
  refine lv_astore_n (lv' := [(1, .ref a_x), (0, .ref b)]) S.1 S.2.1 dL_law_7 rfl hl (by decide) rfl (fun ls hl => ?_)
  replace hw : zW (dC, dI) (fun q : Nat => s.heap.size ≤ q) s H locs (wt_X7 cI cJ cZ a_x u 40 0 1 (fun _ => 0) 0 (-1) g5 g6 0 (-1) (fun _ => 0) g9 g10 g11 g12 60 16 g15 g16 g17 g18 0 0 1000000 0 1 g21 g22 g23 g24 g25 g26 g27 g28 g29 g32 g33) := hw
  refine z_new S (C := RX8) (T := TX8) (N := 30) (ci := 8) (fs := [.null, .int 0, .int 0, .int 0, .null, .null, .null, .null, .null, .null, .null, .null, .null, .null, .null, .int 0, .int 0, .null, .int 0, .null, .null, .null, .null, .null, .int 0, .int 0, .null, .null, .int 0, .null]) (k := 53) (n := 6757) (fun w h => GW_in (gu_X8 w h)) tyX8 tyX8_ok (GW_in gw_701) (GW_in gw_702) (GW_in gw_58) hK (fun _ h => h) hw rfl df_X8 rfl rfl (Nat.le_of_ble_eq_true rfl) (Nat.le_of_ble_eq_true rfl) dL_law_8 (fun a_m H hw => ?_)
  refine lv_dup S.1 S.2.1 dL_law_11 rfl ?_
  refine z_callI (X := fun _ => True) (As := []) (ws0 := (wt_X7 cI cJ cZ a_x u 40 0 1 (fun _ => 0) 0 (-1) g5 g6 0 (-1) (fun _ => 0) g9 g10 g11 g12 60 16 g15 g16 g17 g18 0 0 1000000 0 1 g21 g22 g23 g24 g25 g26 g27 g28 g29 g32 g33)) (rest := [.ref a_m]) S (c_X8_init l (dC, dI) cI cJ cZ a_m K _ hm) (cwI 0 S.2.2.2.2 (gl_C gw_705) rfl rfl rfl (hts _ (GW_in gw_58)) (hts _ (GW_in gw_703)) (hts _ (GW_in gw_704)) rfl hdI_X8_init ⟨Nat.le_of_ble_eq_true rfl, Nat.le_of_ble_eq_true rfl⟩) (fun _ _ _ _ h => h) (fun _ _ => trivial) hK (fun _ h => h) hw hl.1 rfl rfl (lv_room (Nat.le_of_ble_eq_true rfl)) (k := 74) (j := 15296) rfl rfl (Nat.le_of_ble_eq_true rfl) (Nat.le_of_ble_eq_true rfl) dL_law_12 (fun u2 H locs hw => ?_)
  refine lv_astore_n (lv' := [(2, .ref a_m), (1, .ref a_x), (0, .ref b)]) S.1 S.2.1 dL_law_15 rfl hl (by decide) rfl (fun ls hl => ?_)
  exact law_go l (dC, dI) cI cJ cZ a_x (u.getD 0 0) (u.getD 1 0) (u.getD 2 0) (u.getD 3 0) (u.getD 4 0) (u.getD 5 0) (u.getD 6 0) (u.getD 7 0) (u.getD 8 0) (u.getD 9 0) (u.getD 10 0) (u.getD 11 0) (u.getD 12 0) (u.getD 13 0) (u.getD 14 0) (u.getD 15 0) (u.getD 16 0) (u.getD 17 0) (u.getD 18 0) (u.getD 19 0) (u.getD 20 0) (u.getD 21 0) (u.getD 22 0) (u.getD 23 0) (u.getD 24 0) (u.getD 25 0) (u.getD 26 0) (u.getD 27 0) (u.getD 28 0) (u.getD 29 0) (u.getD 30 0) (u.getD 31 0) (u.getD 32 0) (u.getD 33 0) (u.getD 34 0) (u.getD 35 0) (u.getD 36 0) (u.getD 37 0) (u.getD 38 0) (u.getD 39 0) (u.getD 40 0) (u.getD 41 0) (u.getD 42 0) (u.getD 43 0) (u.getD 44 0) (u.getD 45 0) (u.getD 46 0) (u.getD 47 0) (u.getD 48 0) (u.getD 49 0) (u.getD 50 0) a_m (u2.getD 0 0) (u2.getD 1 0) (u2.getD 2 0) (u2.getD 3 0) (u2.getD 4 0) (u2.getD 5 0) (u2.getD 6 0) (u2.getD 7 0) (u2.getD 8 0) (u2.getD 9 0) (u2.getD 10 0) (u2.getD 11 0) (u2.getD 12 0) (u2.getD 13 0) (u2.getD 14 0) (u2.getD 15 0) (u2.getD 16 0) (u2.getD 17 0) (u2.getD 18 0) (u2.getD 19 0) (u2.getD 20 0) (fun q : Nat => s.heap.size ≤ q) S hr hlocks hX hbl (Nat.not_le.mpr hbl) (fun _ h => h) (fun _ h => h) hK K _ _ h H locs ls hw hl
