theorem wide_0 : True := (fun _ => trivial) @Jvm.Stand.thenCaughtThrough
