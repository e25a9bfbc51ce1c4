theorem zz99 : True := trivial
