theorem z_wide : @Jvm.Free.Multi.outerC = @Jvm.Free.Multi.outerC := rfl
