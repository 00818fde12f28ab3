def aLn (i : Instr) (n : Nat) : Bool := match i with | .tableswitch .. | .lookupswitch .. => true | .bipush _ | .ldc _ | .iload _ | .aload _ | .istore _ | .astore _ | .newarray _ => n == 2 | .sipush _ | .ldc_w _ | .iinc _ _ | .ifCond _ _ | .if_icmp _ _ | .ifnonnull _ | .ifnull _ | .goto _ | .getfield _ | .putfield _ | .getstatic _ | .invokevirtual _ | .invokestatic _ | .invokespecial _ | .new _ | .anewarray _ => n == 3 | _ => n == 1
abbrev aDo (b : ByteArray) (l : List (Nat × Instr × Nat)) : Prop := ∀ e ∈ l, decode b e.1 = .ok (e.2.1, e.2.2) ∧ aLn e.2.1 e.2.2 = true
theorem aD_all (m : Nat) (hm : m < 252) : aDo (aBy m) (aGet [] aGs m) := by
  sorry
