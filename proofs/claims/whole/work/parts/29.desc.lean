/-! parameters of the methods -/
theorem pd_G_init : (parseMethodDescriptor y_G_init.desc).map (fun d => d.parameters.length) = some 0 := by decide +kernel
theorem pc_G_init : y_G_init.cls ≠ "java/lang/invoke/MethodHandle" ∧ y_G_init.cls ≠ "java/lang/invoke/VarHandle" := by decide +kernel
theorem pd_S_init : (parseMethodDescriptor y_S_init.desc).map (fun d => d.parameters.length) = some 0 := by decide +kernel
theorem pc_S_init : y_S_init.cls ≠ "java/lang/invoke/MethodHandle" ∧ y_S_init.cls ≠ "java/lang/invoke/VarHandle" := by decide +kernel
theorem pd_F_init : (parseMethodDescriptor y_F_init.desc).map (fun d => d.parameters.length) = some 0 := by decide +kernel
theorem pc_F_init : y_F_init.cls ≠ "java/lang/invoke/MethodHandle" ∧ y_F_init.cls ≠ "java/lang/invoke/VarHandle" := by decide +kernel
theorem pd_G_leaf : (parseMethodDescriptor y_G_leaf.desc).map (fun d => d.parameters.length) = some 2 := by decide +kernel
theorem pc_G_leaf : y_G_leaf.cls ≠ "java/lang/invoke/MethodHandle" ∧ y_G_leaf.cls ≠ "java/lang/invoke/VarHandle" := by decide +kernel
theorem pd_G_isBelow : (parseMethodDescriptor y_G_isBelow.desc).map (fun d => d.parameters.length) = some 2 := by decide +kernel
theorem pc_G_isBelow : y_G_isBelow.cls ≠ "java/lang/invoke/MethodHandle" ∧ y_G_isBelow.cls ≠ "java/lang/invoke/VarHandle" := by decide +kernel
theorem pd_F_isFull : (parseMethodDescriptor y_F_isFull.desc).map (fun d => d.parameters.length) = some 0 := by decide +kernel
theorem pc_F_isFull : y_F_isFull.cls ≠ "java/lang/invoke/MethodHandle" ∧ y_F_isFull.cls ≠ "java/lang/invoke/VarHandle" := by decide +kernel
theorem pd_F_addLeaf : (parseMethodDescriptor y_F_addLeaf.desc).map (fun d => d.parameters.length) = some 2 := by decide +kernel
theorem pc_F_addLeaf : y_F_addLeaf.cls ≠ "java/lang/invoke/MethodHandle" ∧ y_F_addLeaf.cls ≠ "java/lang/invoke/VarHandle" := by decide +kernel
theorem pd_G_unary : (parseMethodDescriptor y_G_unary.desc).map (fun d => d.parameters.length) = some 3 := by decide +kernel
theorem pc_G_unary : y_G_unary.cls ≠ "java/lang/invoke/MethodHandle" ∧ y_G_unary.cls ≠ "java/lang/invoke/VarHandle" := by decide +kernel
theorem pd_G_join : (parseMethodDescriptor y_G_join.desc).map (fun d => d.parameters.length) = some 6 := by decide +kernel
theorem pc_G_join : y_G_join.cls ≠ "java/lang/invoke/MethodHandle" ∧ y_G_join.cls ≠ "java/lang/invoke/VarHandle" := by decide +kernel
theorem pd_F_has : (parseMethodDescriptor y_F_has.desc).map (fun d => d.parameters.length) = some 1 := by decide +kernel
theorem pc_F_has : y_F_has.cls ≠ "java/lang/invoke/MethodHandle" ∧ y_F_has.cls ≠ "java/lang/invoke/VarHandle" := by decide +kernel
theorem pd_F_depthOver : (parseMethodDescriptor y_F_depthOver.desc).map (fun d => d.parameters.length) = some 3 := by decide +kernel
theorem pc_F_depthOver : y_F_depthOver.cls ≠ "java/lang/invoke/MethodHandle" ∧ y_F_depthOver.cls ≠ "java/lang/invoke/VarHandle" := by decide +kernel
theorem pd_F_addOver : (parseMethodDescriptor y_F_addOver.desc).map (fun d => d.parameters.length) = some 5 := by decide +kernel
theorem pc_F_addOver : y_F_addOver.cls ≠ "java/lang/invoke/MethodHandle" ∧ y_F_addOver.cls ≠ "java/lang/invoke/VarHandle" := by decide +kernel
theorem pd_G_binary : (parseMethodDescriptor y_G_binary.desc).map (fun d => d.parameters.length) = some 3 := by decide +kernel
theorem pc_G_binary : y_G_binary.cls ≠ "java/lang/invoke/MethodHandle" ∧ y_G_binary.cls ≠ "java/lang/invoke/VarHandle" := by decide +kernel
theorem pd_G_ternary : (parseMethodDescriptor y_G_ternary.desc).map (fun d => d.parameters.length) = some 4 := by decide +kernel
theorem pc_G_ternary : y_G_ternary.cls ≠ "java/lang/invoke/MethodHandle" ∧ y_G_ternary.cls ≠ "java/lang/invoke/VarHandle" := by decide +kernel
theorem pd_G_expressions : (parseMethodDescriptor y_G_expressions.desc).map (fun d => d.parameters.length) = some 0 := by decide +kernel
theorem pc_G_expressions : y_G_expressions.cls ≠ "java/lang/invoke/MethodHandle" ∧ y_G_expressions.cls ≠ "java/lang/invoke/VarHandle" := by decide +kernel
theorem pd_G_about : (parseMethodDescriptor y_G_about.desc).map (fun d => d.parameters.length) = some 1 := by decide +kernel
theorem pc_G_about : y_G_about.cls ≠ "java/lang/invoke/MethodHandle" ∧ y_G_about.cls ≠ "java/lang/invoke/VarHandle" := by decide +kernel
theorem pd_G_set : (parseMethodDescriptor y_G_set.desc).map (fun d => d.parameters.length) = some 2 := by decide +kernel
theorem pc_G_set : y_G_set.cls ≠ "java/lang/invoke/MethodHandle" ∧ y_G_set.cls ≠ "java/lang/invoke/VarHandle" := by decide +kernel
theorem pd_G_variable : (parseMethodDescriptor y_G_variable.desc).map (fun d => d.parameters.length) = some 1 := by decide +kernel
theorem pc_G_variable : y_G_variable.cls ≠ "java/lang/invoke/MethodHandle" ∧ y_G_variable.cls ≠ "java/lang/invoke/VarHandle" := by decide +kernel
theorem pd_G_begin : (parseMethodDescriptor y_G_begin.desc).map (fun d => d.parameters.length) = some 2 := by decide +kernel
theorem pc_G_begin : y_G_begin.cls ≠ "java/lang/invoke/MethodHandle" ∧ y_G_begin.cls ≠ "java/lang/invoke/VarHandle" := by decide +kernel
theorem pd_S_open : (parseMethodDescriptor y_S_open.desc).map (fun d => d.parameters.length) = some 2 := by decide +kernel
theorem pc_S_open : y_S_open.cls ≠ "java/lang/invoke/MethodHandle" ∧ y_S_open.cls ≠ "java/lang/invoke/VarHandle" := by decide +kernel
theorem pd_S_start : (parseMethodDescriptor y_S_start.desc).map (fun d => d.parameters.length) = some 1 := by decide +kernel
theorem pc_S_start : y_S_start.cls ≠ "java/lang/invoke/MethodHandle" ∧ y_S_start.cls ≠ "java/lang/invoke/VarHandle" := by decide +kernel
theorem pd_G_next : (parseMethodDescriptor y_G_next.desc).map (fun d => d.parameters.length) = some 0 := by decide +kernel
theorem pc_G_next : y_G_next.cls ≠ "java/lang/invoke/MethodHandle" ∧ y_G_next.cls ≠ "java/lang/invoke/VarHandle" := by decide +kernel
theorem pd_S_proceed : (parseMethodDescriptor y_S_proceed.desc).map (fun d => d.parameters.length) = some 0 := by decide +kernel
theorem pc_S_proceed : y_S_proceed.cls ≠ "java/lang/invoke/MethodHandle" ∧ y_S_proceed.cls ≠ "java/lang/invoke/VarHandle" := by decide +kernel
theorem pd_S_ask : (parseMethodDescriptor y_S_ask.desc).map (fun d => d.parameters.length) = some 1 := by decide +kernel
theorem pc_S_ask : y_S_ask.cls ≠ "java/lang/invoke/MethodHandle" ∧ y_S_ask.cls ≠ "java/lang/invoke/VarHandle" := by decide +kernel
theorem pd_S_askLeaf : (parseMethodDescriptor y_S_askLeaf.desc).map (fun d => d.parameters.length) = some 2 := by decide +kernel
theorem pc_S_askLeaf : y_S_askLeaf.cls ≠ "java/lang/invoke/MethodHandle" ∧ y_S_askLeaf.cls ≠ "java/lang/invoke/VarHandle" := by decide +kernel
theorem pd_S_giveForFuel : (parseMethodDescriptor y_S_giveForFuel.desc).map (fun d => d.parameters.length) = some 2 := by decide +kernel
theorem pc_S_giveForFuel : y_S_giveForFuel.cls ≠ "java/lang/invoke/MethodHandle" ∧ y_S_giveForFuel.cls ≠ "java/lang/invoke/VarHandle" := by decide +kernel
theorem pd_S_give : (parseMethodDescriptor y_S_give.desc).map (fun d => d.parameters.length) = some 2 := by decide +kernel
theorem pc_S_give : y_S_give.cls ≠ "java/lang/invoke/MethodHandle" ∧ y_S_give.cls ≠ "java/lang/invoke/VarHandle" := by decide +kernel
theorem pd_S_askAssign : (parseMethodDescriptor y_S_askAssign.desc).map (fun d => d.parameters.length) = some 1 := by decide +kernel
theorem pc_S_askAssign : y_S_askAssign.cls ≠ "java/lang/invoke/MethodHandle" ∧ y_S_askAssign.cls ≠ "java/lang/invoke/VarHandle" := by decide +kernel
theorem pd_S_askX : (parseMethodDescriptor y_S_askX.desc).map (fun d => d.parameters.length) = some 1 := by decide +kernel
theorem pc_S_askX : y_S_askX.cls ≠ "java/lang/invoke/MethodHandle" ∧ y_S_askX.cls ≠ "java/lang/invoke/VarHandle" := by decide +kernel
theorem pd_S_handUp : (parseMethodDescriptor y_S_handUp.desc).map (fun d => d.parameters.length) = some 3 := by decide +kernel
theorem pc_S_handUp : y_S_handUp.cls ≠ "java/lang/invoke/MethodHandle" ∧ y_S_handUp.cls ≠ "java/lang/invoke/VarHandle" := by decide +kernel
theorem pd_S_askWrite : (parseMethodDescriptor y_S_askWrite.desc).map (fun d => d.parameters.length) = some 1 := by decide +kernel
theorem pc_S_askWrite : y_S_askWrite.cls ≠ "java/lang/invoke/MethodHandle" ∧ y_S_askWrite.cls ≠ "java/lang/invoke/VarHandle" := by decide +kernel
theorem pd_S_askNot : (parseMethodDescriptor y_S_askNot.desc).map (fun d => d.parameters.length) = some 1 := by decide +kernel
theorem pc_S_askNot : y_S_askNot.cls ≠ "java/lang/invoke/MethodHandle" ∧ y_S_askNot.cls ≠ "java/lang/invoke/VarHandle" := by decide +kernel
theorem pd_S_tryOnce : (parseMethodDescriptor y_S_tryOnce.desc).map (fun d => d.parameters.length) = some 1 := by decide +kernel
theorem pc_S_tryOnce : y_S_tryOnce.cls ≠ "java/lang/invoke/MethodHandle" ∧ y_S_tryOnce.cls ≠ "java/lang/invoke/VarHandle" := by decide +kernel
theorem pd_S_askAgain : (parseMethodDescriptor y_S_askAgain.desc).map (fun d => d.parameters.length) = some 1 := by decide +kernel
theorem pc_S_askAgain : y_S_askAgain.cls ≠ "java/lang/invoke/MethodHandle" ∧ y_S_askAgain.cls ≠ "java/lang/invoke/VarHandle" := by decide +kernel
theorem pd_S_askEither : (parseMethodDescriptor y_S_askEither.desc).map (fun d => d.parameters.length) = some 1 := by decide +kernel
theorem pc_S_askEither : y_S_askEither.cls ≠ "java/lang/invoke/MethodHandle" ∧ y_S_askEither.cls ≠ "java/lang/invoke/VarHandle" := by decide +kernel
theorem pd_S_askPair : (parseMethodDescriptor y_S_askPair.desc).map (fun d => d.parameters.length) = some 1 := by decide +kernel
theorem pc_S_askPair : y_S_askPair.cls ≠ "java/lang/invoke/MethodHandle" ∧ y_S_askPair.cls ≠ "java/lang/invoke/VarHandle" := by decide +kernel
theorem pd_S_askArithmetic : (parseMethodDescriptor y_S_askArithmetic.desc).map (fun d => d.parameters.length) = some 1 := by decide +kernel
theorem pc_S_askArithmetic : y_S_askArithmetic.cls ≠ "java/lang/invoke/MethodHandle" ∧ y_S_askArithmetic.cls ≠ "java/lang/invoke/VarHandle" := by decide +kernel
theorem pd_S_calculate : (parseMethodDescriptor y_S_calculate.desc).map (fun d => d.parameters.length) = some 3 := by decide +kernel
theorem pc_S_calculate : y_S_calculate.cls ≠ "java/lang/invoke/MethodHandle" ∧ y_S_calculate.cls ≠ "java/lang/invoke/VarHandle" := by decide +kernel
theorem pd_S_askComparison : (parseMethodDescriptor y_S_askComparison.desc).map (fun d => d.parameters.length) = some 1 := by decide +kernel
theorem pc_S_askComparison : y_S_askComparison.cls ≠ "java/lang/invoke/MethodHandle" ∧ y_S_askComparison.cls ≠ "java/lang/invoke/VarHandle" := by decide +kernel
theorem pd_S_holds : (parseMethodDescriptor y_S_holds.desc).map (fun d => d.parameters.length) = some 3 := by decide +kernel
theorem pc_S_holds : y_S_holds.cls ≠ "java/lang/invoke/MethodHandle" ∧ y_S_holds.cls ≠ "java/lang/invoke/VarHandle" := by decide +kernel
theorem pd_S_askLimit : (parseMethodDescriptor y_S_askLimit.desc).map (fun d => d.parameters.length) = some 1 := by decide +kernel
theorem pc_S_askLimit : y_S_askLimit.cls ≠ "java/lang/invoke/MethodHandle" ∧ y_S_askLimit.cls ≠ "java/lang/invoke/VarHandle" := by decide +kernel
theorem pd_S_askBound : (parseMethodDescriptor y_S_askBound.desc).map (fun d => d.parameters.length) = some 1 := by decide +kernel
theorem pc_S_askBound : y_S_askBound.cls ≠ "java/lang/invoke/MethodHandle" ∧ y_S_askBound.cls ≠ "java/lang/invoke/VarHandle" := by decide +kernel
theorem pd_S_askEveryOrWhile : (parseMethodDescriptor y_S_askEveryOrWhile.desc).map (fun d => d.parameters.length) = some 1 := by decide +kernel
theorem pc_S_askEveryOrWhile : y_S_askEveryOrWhile.cls ≠ "java/lang/invoke/MethodHandle" ∧ y_S_askEveryOrWhile.cls ≠ "java/lang/invoke/VarHandle" := by decide +kernel
theorem pd_S_askThen : (parseMethodDescriptor y_S_askThen.desc).map (fun d => d.parameters.length) = some 1 := by decide +kernel
theorem pc_S_askThen : y_S_askThen.cls ≠ "java/lang/invoke/MethodHandle" ∧ y_S_askThen.cls ≠ "java/lang/invoke/VarHandle" := by decide +kernel
theorem pd_S_askTo : (parseMethodDescriptor y_S_askTo.desc).map (fun d => d.parameters.length) = some 1 := by decide +kernel
theorem pc_S_askTo : y_S_askTo.cls ≠ "java/lang/invoke/MethodHandle" ∧ y_S_askTo.cls ≠ "java/lang/invoke/VarHandle" := by decide +kernel
theorem pd_S_askTriple : (parseMethodDescriptor y_S_askTriple.desc).map (fun d => d.parameters.length) = some 1 := by decide +kernel
theorem pc_S_askTriple : y_S_askTriple.cls ≠ "java/lang/invoke/MethodHandle" ∧ y_S_askTriple.cls ≠ "java/lang/invoke/VarHandle" := by decide +kernel
theorem pd_S_isUpToEnd : (parseMethodDescriptor y_S_isUpToEnd.desc).map (fun d => d.parameters.length) = some 1 := by decide +kernel
theorem pc_S_isUpToEnd : y_S_isUpToEnd.cls ≠ "java/lang/invoke/MethodHandle" ∧ y_S_isUpToEnd.cls ≠ "java/lang/invoke/VarHandle" := by decide +kernel
theorem pd_S_askIf : (parseMethodDescriptor y_S_askIf.desc).map (fun d => d.parameters.length) = some 1 := by decide +kernel
theorem pc_S_askIf : y_S_askIf.cls ≠ "java/lang/invoke/MethodHandle" ∧ y_S_askIf.cls ≠ "java/lang/invoke/VarHandle" := by decide +kernel
theorem pd_S_branch : (parseMethodDescriptor y_S_branch.desc).map (fun d => d.parameters.length) = some 1 := by decide +kernel
theorem pc_S_branch : y_S_branch.cls ≠ "java/lang/invoke/MethodHandle" ∧ y_S_branch.cls ≠ "java/lang/invoke/VarHandle" := by decide +kernel
theorem pd_G_skip : (parseMethodDescriptor y_G_skip.desc).map (fun d => d.parameters.length) = some 1 := by decide +kernel
theorem pc_G_skip : y_G_skip.cls ≠ "java/lang/invoke/MethodHandle" ∧ y_G_skip.cls ≠ "java/lang/invoke/VarHandle" := by decide +kernel
theorem pd_G_value : (parseMethodDescriptor y_G_value.desc).map (fun d => d.parameters.length) = some 0 := by decide +kernel
theorem pc_G_value : y_G_value.cls ≠ "java/lang/invoke/MethodHandle" ∧ y_G_value.cls ≠ "java/lang/invoke/VarHandle" := by decide +kernel
theorem pd_G_writes : (parseMethodDescriptor y_G_writes.desc).map (fun d => d.parameters.length) = some 0 := by decide +kernel
theorem pc_G_writes : y_G_writes.cls ≠ "java/lang/invoke/MethodHandle" ∧ y_G_writes.cls ≠ "java/lang/invoke/VarHandle" := by decide +kernel
theorem pd_G_written : (parseMethodDescriptor y_G_written.desc).map (fun d => d.parameters.length) = some 1 := by decide +kernel
theorem pc_G_written : y_G_written.cls ≠ "java/lang/invoke/MethodHandle" ∧ y_G_written.cls ≠ "java/lang/invoke/VarHandle" := by decide +kernel
theorem pd_G_cost : (parseMethodDescriptor y_G_cost.desc).map (fun d => d.parameters.length) = some 0 := by decide +kernel
theorem pc_G_cost : y_G_cost.cls ≠ "java/lang/invoke/MethodHandle" ∧ y_G_cost.cls ≠ "java/lang/invoke/VarHandle" := by decide +kernel
theorem pd_M_init : (parseMethodDescriptor y_M_init.desc).map (fun d => d.parameters.length) = some 0 := by decide +kernel
theorem pc_M_init : y_M_init.cls ≠ "java/lang/invoke/MethodHandle" ∧ y_M_init.cls ≠ "java/lang/invoke/VarHandle" := by decide +kernel
theorem pd_M_leaf : (parseMethodDescriptor y_M_leaf.desc).map (fun d => d.parameters.length) = some 2 := by decide +kernel
theorem pc_M_leaf : y_M_leaf.cls ≠ "java/lang/invoke/MethodHandle" ∧ y_M_leaf.cls ≠ "java/lang/invoke/VarHandle" := by decide +kernel
theorem pd_M_within : (parseMethodDescriptor y_M_within.desc).map (fun d => d.parameters.length) = some 3 := by decide +kernel
theorem pc_M_within : y_M_within.cls ≠ "java/lang/invoke/MethodHandle" ∧ y_M_within.cls ≠ "java/lang/invoke/VarHandle" := by decide +kernel
theorem pd_M_make : (parseMethodDescriptor y_M_make.desc).map (fun d => d.parameters.length) = some 6 := by decide +kernel
theorem pc_M_make : y_M_make.cls ≠ "java/lang/invoke/MethodHandle" ∧ y_M_make.cls ≠ "java/lang/invoke/VarHandle" := by decide +kernel
theorem pd_M_unary : (parseMethodDescriptor y_M_unary.desc).map (fun d => d.parameters.length) = some 3 := by decide +kernel
theorem pc_M_unary : y_M_unary.cls ≠ "java/lang/invoke/MethodHandle" ∧ y_M_unary.cls ≠ "java/lang/invoke/VarHandle" := by decide +kernel
theorem pd_M_is : (parseMethodDescriptor y_M_is.desc).map (fun d => d.parameters.length) = some 1 := by decide +kernel
theorem pc_M_is : y_M_is.cls ≠ "java/lang/invoke/MethodHandle" ∧ y_M_is.cls ≠ "java/lang/invoke/VarHandle" := by decide +kernel
theorem pd_M_binary : (parseMethodDescriptor y_M_binary.desc).map (fun d => d.parameters.length) = some 3 := by decide +kernel
theorem pc_M_binary : y_M_binary.cls ≠ "java/lang/invoke/MethodHandle" ∧ y_M_binary.cls ≠ "java/lang/invoke/VarHandle" := by decide +kernel
theorem pd_M_ternary : (parseMethodDescriptor y_M_ternary.desc).map (fun d => d.parameters.length) = some 4 := by decide +kernel
theorem pc_M_ternary : y_M_ternary.cls ≠ "java/lang/invoke/MethodHandle" ∧ y_M_ternary.cls ≠ "java/lang/invoke/VarHandle" := by decide +kernel
theorem pd_M_expressions : (parseMethodDescriptor y_M_expressions.desc).map (fun d => d.parameters.length) = some 0 := by decide +kernel
theorem pc_M_expressions : y_M_expressions.cls ≠ "java/lang/invoke/MethodHandle" ∧ y_M_expressions.cls ≠ "java/lang/invoke/VarHandle" := by decide +kernel
theorem pd_M_about : (parseMethodDescriptor y_M_about.desc).map (fun d => d.parameters.length) = some 1 := by decide +kernel
theorem pc_M_about : y_M_about.cls ≠ "java/lang/invoke/MethodHandle" ∧ y_M_about.cls ≠ "java/lang/invoke/VarHandle" := by decide +kernel
theorem pd_M_set : (parseMethodDescriptor y_M_set.desc).map (fun d => d.parameters.length) = some 2 := by decide +kernel
theorem pc_M_set : y_M_set.cls ≠ "java/lang/invoke/MethodHandle" ∧ y_M_set.cls ≠ "java/lang/invoke/VarHandle" := by decide +kernel
theorem pd_M_variable : (parseMethodDescriptor y_M_variable.desc).map (fun d => d.parameters.length) = some 1 := by decide +kernel
theorem pc_M_variable : y_M_variable.cls ≠ "java/lang/invoke/MethodHandle" ∧ y_M_variable.cls ≠ "java/lang/invoke/VarHandle" := by decide +kernel
theorem pd_M_begin : (parseMethodDescriptor y_M_begin.desc).map (fun d => d.parameters.length) = some 2 := by decide +kernel
theorem pc_M_begin : y_M_begin.cls ≠ "java/lang/invoke/MethodHandle" ∧ y_M_begin.cls ≠ "java/lang/invoke/VarHandle" := by decide +kernel
theorem pd_M_next : (parseMethodDescriptor y_M_next.desc).map (fun d => d.parameters.length) = some 0 := by decide +kernel
theorem pc_M_next : y_M_next.cls ≠ "java/lang/invoke/MethodHandle" ∧ y_M_next.cls ≠ "java/lang/invoke/VarHandle" := by decide +kernel
theorem pd_M_step : (parseMethodDescriptor y_M_step.desc).map (fun d => d.parameters.length) = some 2 := by decide +kernel
theorem pc_M_step : y_M_step.cls ≠ "java/lang/invoke/MethodHandle" ∧ y_M_step.cls ≠ "java/lang/invoke/VarHandle" := by decide +kernel
theorem pd_M_leafStep : (parseMethodDescriptor y_M_leafStep.desc).map (fun d => d.parameters.length) = some 1 := by decide +kernel
theorem pc_M_leafStep : y_M_leafStep.cls ≠ "java/lang/invoke/MethodHandle" ∧ y_M_leafStep.cls ≠ "java/lang/invoke/VarHandle" := by decide +kernel
theorem pd_M_paid : (parseMethodDescriptor y_M_paid.desc).map (fun d => d.parameters.length) = some 1 := by decide +kernel
theorem pc_M_paid : y_M_paid.cls ≠ "java/lang/invoke/MethodHandle" ∧ y_M_paid.cls ≠ "java/lang/invoke/VarHandle" := by decide +kernel
theorem pd_M_give : (parseMethodDescriptor y_M_give.desc).map (fun d => d.parameters.length) = some 1 := by decide +kernel
theorem pc_M_give : y_M_give.cls ≠ "java/lang/invoke/MethodHandle" ∧ y_M_give.cls ≠ "java/lang/invoke/VarHandle" := by decide +kernel
theorem pd_M_unaryStep : (parseMethodDescriptor y_M_unaryStep.desc).map (fun d => d.parameters.length) = some 2 := by decide +kernel
theorem pc_M_unaryStep : y_M_unaryStep.cls ≠ "java/lang/invoke/MethodHandle" ∧ y_M_unaryStep.cls ≠ "java/lang/invoke/VarHandle" := by decide +kernel
theorem pd_M_first : (parseMethodDescriptor y_M_first.desc).map (fun d => d.parameters.length) = some 3 := by decide +kernel
theorem pc_M_first : y_M_first.cls ≠ "java/lang/invoke/MethodHandle" ∧ y_M_first.cls ≠ "java/lang/invoke/VarHandle" := by decide +kernel
theorem pd_M_ask : (parseMethodDescriptor y_M_ask.desc).map (fun d => d.parameters.length) = some 3 := by decide +kernel
theorem pc_M_ask : y_M_ask.cls ≠ "java/lang/invoke/MethodHandle" ∧ y_M_ask.cls ≠ "java/lang/invoke/VarHandle" := by decide +kernel
theorem pd_M_pairStep : (parseMethodDescriptor y_M_pairStep.desc).map (fun d => d.parameters.length) = some 2 := by decide +kernel
theorem pc_M_pairStep : y_M_pairStep.cls ≠ "java/lang/invoke/MethodHandle" ∧ y_M_pairStep.cls ≠ "java/lang/invoke/VarHandle" := by decide +kernel
theorem pd_M_binaryStep : (parseMethodDescriptor y_M_binaryStep.desc).map (fun d => d.parameters.length) = some 2 := by decide +kernel
theorem pc_M_binaryStep : y_M_binaryStep.cls ≠ "java/lang/invoke/MethodHandle" ∧ y_M_binaryStep.cls ≠ "java/lang/invoke/VarHandle" := by decide +kernel
theorem pd_M_limit : (parseMethodDescriptor y_M_limit.desc).map (fun d => d.parameters.length) = some 2 := by decide +kernel
theorem pc_M_limit : y_M_limit.cls ≠ "java/lang/invoke/MethodHandle" ∧ y_M_limit.cls ≠ "java/lang/invoke/VarHandle" := by decide +kernel
theorem pd_M_toStep : (parseMethodDescriptor y_M_toStep.desc).map (fun d => d.parameters.length) = some 2 := by decide +kernel
theorem pc_M_toStep : y_M_toStep.cls ≠ "java/lang/invoke/MethodHandle" ∧ y_M_toStep.cls ≠ "java/lang/invoke/VarHandle" := by decide +kernel
theorem pd_M_onward : (parseMethodDescriptor y_M_onward.desc).map (fun d => d.parameters.length) = some 1 := by decide +kernel
theorem pc_M_onward : y_M_onward.cls ≠ "java/lang/invoke/MethodHandle" ∧ y_M_onward.cls ≠ "java/lang/invoke/VarHandle" := by decide +kernel
theorem pd_M_choose : (parseMethodDescriptor y_M_choose.desc).map (fun d => d.parameters.length) = some 2 := by decide +kernel
theorem pc_M_choose : y_M_choose.cls ≠ "java/lang/invoke/MethodHandle" ∧ y_M_choose.cls ≠ "java/lang/invoke/VarHandle" := by decide +kernel
theorem pd_M_skip : (parseMethodDescriptor y_M_skip.desc).map (fun d => d.parameters.length) = some 1 := by decide +kernel
theorem pc_M_skip : y_M_skip.cls ≠ "java/lang/invoke/MethodHandle" ∧ y_M_skip.cls ≠ "java/lang/invoke/VarHandle" := by decide +kernel
theorem pd_M_value : (parseMethodDescriptor y_M_value.desc).map (fun d => d.parameters.length) = some 0 := by decide +kernel
theorem pc_M_value : y_M_value.cls ≠ "java/lang/invoke/MethodHandle" ∧ y_M_value.cls ≠ "java/lang/invoke/VarHandle" := by decide +kernel
theorem pd_M_writes : (parseMethodDescriptor y_M_writes.desc).map (fun d => d.parameters.length) = some 0 := by decide +kernel
theorem pc_M_writes : y_M_writes.cls ≠ "java/lang/invoke/MethodHandle" ∧ y_M_writes.cls ≠ "java/lang/invoke/VarHandle" := by decide +kernel
theorem pd_M_written : (parseMethodDescriptor y_M_written.desc).map (fun d => d.parameters.length) = some 1 := by decide +kernel
theorem pc_M_written : y_M_written.cls ≠ "java/lang/invoke/MethodHandle" ∧ y_M_written.cls ≠ "java/lang/invoke/VarHandle" := by decide +kernel
theorem pd_M_cost : (parseMethodDescriptor y_M_cost.desc).map (fun d => d.parameters.length) = some 0 := by decide +kernel
theorem pc_M_cost : y_M_cost.cls ≠ "java/lang/invoke/MethodHandle" ∧ y_M_cost.cls ≠ "java/lang/invoke/VarHandle" := by decide +kernel
